def F_X3_startFresh  : S7 :=
  (0, 0, 0, 0, 0, 0, 0)
set_option maxRecDepth 100000 in
theorem k_X3_startFresh_f9 : Cond.fieldLink RX3 9 "FlexiblePolicy$Standing" "state" "I" ∈ wsX3_startFresh := by decide +kernel
set_option maxRecDepth 100000 in
theorem k_X3_startFresh_in3 : ∀ w ∈ u_ws RX3 TX3 7, w ∈ wsX3_startFresh := by decide +kernel
set_option maxRecDepth 100000 in
theorem k_X3_startFresh_f15 : Cond.fieldLink RX3 15 "FlexiblePolicy$Standing" "account" "I" ∈ wsX3_startFresh := by decide +kernel
set_option maxRecDepth 100000 in
theorem k_X3_startFresh_f18 : Cond.fieldLink RX3 18 "FlexiblePolicy$Standing" "loan" "I" ∈ wsX3_startFresh := by decide +kernel
set_option maxRecDepth 100000 in
theorem k_X3_startFresh_f21 : Cond.fieldLink RX3 21 "FlexiblePolicy$Standing" "arrears" "I" ∈ wsX3_startFresh := by decide +kernel
set_option maxRecDepth 100000 in
theorem k_X3_startFresh_f24 : Cond.fieldLink RX3 24 "FlexiblePolicy$Standing" "grace" "I" ∈ wsX3_startFresh := by decide +kernel
set_option maxRecDepth 100000 in
theorem k_X3_startFresh_f27 : Cond.fieldLink RX3 27 "FlexiblePolicy$Standing" "lapsedFrom" "I" ∈ wsX3_startFresh := by decide +kernel
set_option maxRecDepth 100000 in
theorem k_X3_startFresh_f30 : Cond.fieldLink RX3 30 "FlexiblePolicy$Standing" "paid" "I" ∈ wsX3_startFresh := by decide +kernel
theorem nd_X3_startFresh : yX3_startFresh.cls = RX3 ∧ yX3_startFresh.cls ≠ "java/lang/invoke/MethodHandle" ∧ yX3_startFresh.cls ≠ "java/lang/invoke/VarHandle" ∧ (parseMethodDescriptor yX3_startFresh.desc).map (fun d => d.parameters.length) = some 0 := by decide +kernel
abbrev rm_X3_startFresh : Room := { frames := 0, cells := 0, slots := 0, locals := 0 }
set_option maxHeartbeats 4000000 in
set_option maxRecDepth 100000 in
theorem c_X3_startFresh (l : Launch) (G : GG) (a : Nat) (v : S7) : CV l G yX3_startFresh wsX3_startFresh rm_X3_startFresh [.ref a] [cS a v] [cS a F_X3_startFresh] := by
  refine CV_of (own := RX3) (by decide +kernel) rfl rfl (Nat.le_of_ble_eq_true rfl) ?_
  intro pP eE sS mM args below meth cC A S hK hr hlk hmn hW ls hl
  have hx := S.1
  have hb := S.2.1
  have hl : lv_has ls 1 [(0, .ref a)] := hl
  have hW : Wd G A sS.heap [cS a v] sS.heap [] := hW
  refine lv_aload_n hx hb dX3_startFresh_0 rfl (lv_at hl 0 rfl) ?_
  refine lv_iconst (v := 0) hx hb dX3_startFresh_1 (by decide) ?_
  refine k_put (C := RX3) (T := TX3) (N := 7) (ci := 3) (v := .int 0) (ws' := [cS a (0, v.2.1, v.2.2.1, v.2.2.2.1, v.2.2.2.2.1, v.2.2.2.2.2.1, v.2.2.2.2.2.2)]) S hK hW k_X3_startFresh_in3 tyX3_ok nmX3 0 0 rfl rfl (by decide) k_X3_startFresh_f9 rfl rfl rfl rfl rfl dX3_startFresh_2 (fun H locs hW => ?_)
  refine lv_aload_n hx hb dX3_startFresh_5 rfl (lv_at hl 0 rfl) ?_
  refine lv_iconst (v := 0) hx hb dX3_startFresh_6 (by decide) ?_
  refine k_put (C := RX3) (T := TX3) (N := 7) (ci := 3) (v := .int 0) (ws' := [cS a (0, 0, v.2.2.1, v.2.2.2.1, v.2.2.2.2.1, v.2.2.2.2.2.1, v.2.2.2.2.2.2)]) S hK hW k_X3_startFresh_in3 tyX3_ok nmX3 0 1 rfl rfl (by decide) k_X3_startFresh_f15 rfl rfl rfl rfl rfl dX3_startFresh_7 (fun H locs hW => ?_)
  refine lv_aload_n hx hb dX3_startFresh_10 rfl (lv_at hl 0 rfl) ?_
  refine lv_iconst (v := 0) hx hb dX3_startFresh_11 (by decide) ?_
  refine k_put (C := RX3) (T := TX3) (N := 7) (ci := 3) (v := .int 0) (ws' := [cS a (0, 0, 0, v.2.2.2.1, v.2.2.2.2.1, v.2.2.2.2.2.1, v.2.2.2.2.2.2)]) S hK hW k_X3_startFresh_in3 tyX3_ok nmX3 0 2 rfl rfl (by decide) k_X3_startFresh_f18 rfl rfl rfl rfl rfl dX3_startFresh_12 (fun H locs hW => ?_)
  refine lv_aload_n hx hb dX3_startFresh_15 rfl (lv_at hl 0 rfl) ?_
  refine lv_iconst (v := 0) hx hb dX3_startFresh_16 (by decide) ?_
  refine k_put (C := RX3) (T := TX3) (N := 7) (ci := 3) (v := .int 0) (ws' := [cS a (0, 0, 0, 0, v.2.2.2.2.1, v.2.2.2.2.2.1, v.2.2.2.2.2.2)]) S hK hW k_X3_startFresh_in3 tyX3_ok nmX3 0 3 rfl rfl (by decide) k_X3_startFresh_f21 rfl rfl rfl rfl rfl dX3_startFresh_17 (fun H locs hW => ?_)
  refine lv_aload_n hx hb dX3_startFresh_20 rfl (lv_at hl 0 rfl) ?_
  refine lv_iconst (v := 0) hx hb dX3_startFresh_21 (by decide) ?_
  refine k_put (C := RX3) (T := TX3) (N := 7) (ci := 3) (v := .int 0) (ws' := [cS a (0, 0, 0, 0, 0, v.2.2.2.2.2.1, v.2.2.2.2.2.2)]) S hK hW k_X3_startFresh_in3 tyX3_ok nmX3 0 4 rfl rfl (by decide) k_X3_startFresh_f24 rfl rfl rfl rfl rfl dX3_startFresh_22 (fun H locs hW => ?_)
  refine lv_aload_n hx hb dX3_startFresh_25 rfl (lv_at hl 0 rfl) ?_
  refine lv_iconst (v := 0) hx hb dX3_startFresh_26 (by decide) ?_
  refine k_put (C := RX3) (T := TX3) (N := 7) (ci := 3) (v := .int 0) (ws' := [cS a (0, 0, 0, 0, 0, 0, v.2.2.2.2.2.2)]) S hK hW k_X3_startFresh_in3 tyX3_ok nmX3 0 5 rfl rfl (by decide) k_X3_startFresh_f27 rfl rfl rfl rfl rfl dX3_startFresh_27 (fun H locs hW => ?_)
  refine lv_aload_n hx hb dX3_startFresh_30 rfl (lv_at hl 0 rfl) ?_
  refine lv_iconst (v := 0) hx hb dX3_startFresh_31 (by decide) ?_
  refine k_put (C := RX3) (T := TX3) (N := 7) (ci := 3) (v := .int 0) (ws' := [cS a (0, 0, 0, 0, 0, 0, 0)]) S hK hW k_X3_startFresh_in3 tyX3_ok nmX3 0 6 rfl rfl (by decide) k_X3_startFresh_f30 rfl rfl rfl rfl rfl dX3_startFresh_32 (fun H locs hW => ?_)
  have eF : F_X3_startFresh = (0, 0, 0, 0, 0, 0, 0) := by
    rfl
  exact k_vret (wf := [cS a (0, 0, 0, 0, 0, 0, 0)]) S hr hlk hK hW [0] rfl rfl (congrArg (fun (z : S7) => [cS a z]) eF).symm dX3_startFresh_35
def F_X3_copy (w : S7) : S7 :=
  w
set_option maxRecDepth 100000 in
theorem k_X3_copy_f9 : Cond.fieldLink RX3 9 "FlexiblePolicy$Standing" "state" "I" ∈ wsX3_copy := by decide +kernel
set_option maxRecDepth 100000 in
theorem k_X3_copy_in3 : ∀ w ∈ u_ws RX3 TX3 7, w ∈ wsX3_copy := by decide +kernel
set_option maxRecDepth 100000 in
theorem k_X3_copy_f15 : Cond.fieldLink RX3 15 "FlexiblePolicy$Standing" "account" "I" ∈ wsX3_copy := by decide +kernel
set_option maxRecDepth 100000 in
theorem k_X3_copy_f18 : Cond.fieldLink RX3 18 "FlexiblePolicy$Standing" "loan" "I" ∈ wsX3_copy := by decide +kernel
set_option maxRecDepth 100000 in
theorem k_X3_copy_f21 : Cond.fieldLink RX3 21 "FlexiblePolicy$Standing" "arrears" "I" ∈ wsX3_copy := by decide +kernel
set_option maxRecDepth 100000 in
theorem k_X3_copy_f24 : Cond.fieldLink RX3 24 "FlexiblePolicy$Standing" "grace" "I" ∈ wsX3_copy := by decide +kernel
set_option maxRecDepth 100000 in
theorem k_X3_copy_f27 : Cond.fieldLink RX3 27 "FlexiblePolicy$Standing" "lapsedFrom" "I" ∈ wsX3_copy := by decide +kernel
set_option maxRecDepth 100000 in
theorem k_X3_copy_f30 : Cond.fieldLink RX3 30 "FlexiblePolicy$Standing" "paid" "I" ∈ wsX3_copy := by decide +kernel
theorem nd_X3_copy : yX3_copy.cls = RX3 ∧ yX3_copy.cls ≠ "java/lang/invoke/MethodHandle" ∧ yX3_copy.cls ≠ "java/lang/invoke/VarHandle" ∧ (parseMethodDescriptor yX3_copy.desc).map (fun d => d.parameters.length) = some 1 := by decide +kernel
abbrev rm_X3_copy : Room := { frames := 0, cells := 0, slots := 0, locals := 0 }
set_option maxHeartbeats 4000000 in
set_option maxRecDepth 100000 in
theorem c_X3_copy (l : Launch) (G : GG) (a : Nat) (b : Nat) (v : S7) (w : S7) : CV l G yX3_copy wsX3_copy rm_X3_copy [.ref a, .ref b] [cS a v, cS b w] [cS a (F_X3_copy w), cS b w] := by
  refine CV_of (own := RX3) (by decide +kernel) rfl rfl (Nat.le_of_ble_eq_true rfl) ?_
  intro pP eE sS mM args below meth cC A S hK hr hlk hmn hW ls hl
  have hx := S.1
  have hb := S.2.1
  have hl : lv_has ls 2 [(0, .ref a), (1, .ref b)] := hl
  have hW : Wd G A sS.heap [cS a v, cS b w] sS.heap [] := hW
  refine lv_aload_n hx hb dX3_copy_0 rfl (lv_at hl 0 rfl) ?_
  refine lv_aload_n hx hb dX3_copy_1 rfl (lv_at hl 1 rfl) ?_
  refine k_get (C := RX3) (T := TX3) (N := 7) (ci := 3) (v := .int w.1) S hK hW k_X3_copy_in3 1 0 rfl rfl (by decide) k_X3_copy_f9 rfl dX3_copy_2 ?_
  refine k_put (C := RX3) (T := TX3) (N := 7) (ci := 3) (v := .int w.1) (ws' := [cS a (w.1, v.2.1, v.2.2.1, v.2.2.2.1, v.2.2.2.2.1, v.2.2.2.2.2.1, v.2.2.2.2.2.2), cS b w]) S hK hW k_X3_copy_in3 tyX3_ok nmX3 0 0 rfl rfl (by decide) k_X3_copy_f9 rfl rfl rfl rfl rfl dX3_copy_5 (fun H locs hW => ?_)
  refine lv_aload_n hx hb dX3_copy_8 rfl (lv_at hl 0 rfl) ?_
  refine lv_aload_n hx hb dX3_copy_9 rfl (lv_at hl 1 rfl) ?_
  refine k_get (C := RX3) (T := TX3) (N := 7) (ci := 3) (v := .int w.2.1) S hK hW k_X3_copy_in3 1 1 rfl rfl (by decide) k_X3_copy_f15 rfl dX3_copy_10 ?_
  refine k_put (C := RX3) (T := TX3) (N := 7) (ci := 3) (v := .int w.2.1) (ws' := [cS a (w.1, w.2.1, v.2.2.1, v.2.2.2.1, v.2.2.2.2.1, v.2.2.2.2.2.1, v.2.2.2.2.2.2), cS b w]) S hK hW k_X3_copy_in3 tyX3_ok nmX3 0 1 rfl rfl (by decide) k_X3_copy_f15 rfl rfl rfl rfl rfl dX3_copy_13 (fun H locs hW => ?_)
  refine lv_aload_n hx hb dX3_copy_16 rfl (lv_at hl 0 rfl) ?_
  refine lv_aload_n hx hb dX3_copy_17 rfl (lv_at hl 1 rfl) ?_
  refine k_get (C := RX3) (T := TX3) (N := 7) (ci := 3) (v := .int w.2.2.1) S hK hW k_X3_copy_in3 1 2 rfl rfl (by decide) k_X3_copy_f18 rfl dX3_copy_18 ?_
  refine k_put (C := RX3) (T := TX3) (N := 7) (ci := 3) (v := .int w.2.2.1) (ws' := [cS a (w.1, w.2.1, w.2.2.1, v.2.2.2.1, v.2.2.2.2.1, v.2.2.2.2.2.1, v.2.2.2.2.2.2), cS b w]) S hK hW k_X3_copy_in3 tyX3_ok nmX3 0 2 rfl rfl (by decide) k_X3_copy_f18 rfl rfl rfl rfl rfl dX3_copy_21 (fun H locs hW => ?_)
  refine lv_aload_n hx hb dX3_copy_24 rfl (lv_at hl 0 rfl) ?_
  refine lv_aload_n hx hb dX3_copy_25 rfl (lv_at hl 1 rfl) ?_
  refine k_get (C := RX3) (T := TX3) (N := 7) (ci := 3) (v := .int w.2.2.2.1) S hK hW k_X3_copy_in3 1 3 rfl rfl (by decide) k_X3_copy_f21 rfl dX3_copy_26 ?_
  refine k_put (C := RX3) (T := TX3) (N := 7) (ci := 3) (v := .int w.2.2.2.1) (ws' := [cS a (w.1, w.2.1, w.2.2.1, w.2.2.2.1, v.2.2.2.2.1, v.2.2.2.2.2.1, v.2.2.2.2.2.2), cS b w]) S hK hW k_X3_copy_in3 tyX3_ok nmX3 0 3 rfl rfl (by decide) k_X3_copy_f21 rfl rfl rfl rfl rfl dX3_copy_29 (fun H locs hW => ?_)
  refine lv_aload_n hx hb dX3_copy_32 rfl (lv_at hl 0 rfl) ?_
  refine lv_aload_n hx hb dX3_copy_33 rfl (lv_at hl 1 rfl) ?_
  refine k_get (C := RX3) (T := TX3) (N := 7) (ci := 3) (v := .int w.2.2.2.2.1) S hK hW k_X3_copy_in3 1 4 rfl rfl (by decide) k_X3_copy_f24 rfl dX3_copy_34 ?_
  refine k_put (C := RX3) (T := TX3) (N := 7) (ci := 3) (v := .int w.2.2.2.2.1) (ws' := [cS a (w.1, w.2.1, w.2.2.1, w.2.2.2.1, w.2.2.2.2.1, v.2.2.2.2.2.1, v.2.2.2.2.2.2), cS b w]) S hK hW k_X3_copy_in3 tyX3_ok nmX3 0 4 rfl rfl (by decide) k_X3_copy_f24 rfl rfl rfl rfl rfl dX3_copy_37 (fun H locs hW => ?_)
  refine lv_aload_n hx hb dX3_copy_40 rfl (lv_at hl 0 rfl) ?_
  refine lv_aload_n hx hb dX3_copy_41 rfl (lv_at hl 1 rfl) ?_
  refine k_get (C := RX3) (T := TX3) (N := 7) (ci := 3) (v := .int w.2.2.2.2.2.1) S hK hW k_X3_copy_in3 1 5 rfl rfl (by decide) k_X3_copy_f27 rfl dX3_copy_42 ?_
  refine k_put (C := RX3) (T := TX3) (N := 7) (ci := 3) (v := .int w.2.2.2.2.2.1) (ws' := [cS a (w.1, w.2.1, w.2.2.1, w.2.2.2.1, w.2.2.2.2.1, w.2.2.2.2.2.1, v.2.2.2.2.2.2), cS b w]) S hK hW k_X3_copy_in3 tyX3_ok nmX3 0 5 rfl rfl (by decide) k_X3_copy_f27 rfl rfl rfl rfl rfl dX3_copy_45 (fun H locs hW => ?_)
  refine lv_aload_n hx hb dX3_copy_48 rfl (lv_at hl 0 rfl) ?_
  refine lv_aload_n hx hb dX3_copy_49 rfl (lv_at hl 1 rfl) ?_
  refine k_get (C := RX3) (T := TX3) (N := 7) (ci := 3) (v := .int w.2.2.2.2.2.2) S hK hW k_X3_copy_in3 1 6 rfl rfl (by decide) k_X3_copy_f30 rfl dX3_copy_50 ?_
  refine k_put (C := RX3) (T := TX3) (N := 7) (ci := 3) (v := .int w.2.2.2.2.2.2) (ws' := [cS a w, cS b w]) S hK hW k_X3_copy_in3 tyX3_ok nmX3 0 6 rfl rfl (by decide) k_X3_copy_f30 rfl rfl rfl rfl rfl dX3_copy_53 (fun H locs hW => ?_)
  have eF : (F_X3_copy w) = w := by
    rfl
  exact k_vret (wf := [cS a w, cS b w]) S hr hlk hK hW [0, 1] rfl rfl (congrArg (fun (z : S7) => [cS a z, cS b w]) eF).symm dX3_copy_56
def F_X3_isLive (v : S7) : Bool :=
  if v.1 = 0 then true
  else (if v.1 = 1 then true
    else false)
set_option maxRecDepth 100000 in
theorem k_X3_isLive_f9 : Cond.fieldLink RX3 9 "FlexiblePolicy$Standing" "state" "I" ∈ wsX3_isLive := by decide +kernel
set_option maxRecDepth 100000 in
theorem k_X3_isLive_in3 : ∀ w ∈ u_ws RX3 TX3 7, w ∈ wsX3_isLive := by decide +kernel
theorem nd_X3_isLive : yX3_isLive.cls = RX3 ∧ yX3_isLive.cls ≠ "java/lang/invoke/MethodHandle" ∧ yX3_isLive.cls ≠ "java/lang/invoke/VarHandle" ∧ (parseMethodDescriptor yX3_isLive.desc).map (fun d => d.parameters.length) = some 0 := by decide +kernel
abbrev rm_X3_isLive : Room := { frames := 0, cells := 0, slots := 0, locals := 0 }
set_option maxHeartbeats 4000000 in
set_option maxRecDepth 100000 in
theorem c_X3_isLive (l : Launch) (G : GG) (a : Nat) (v : S7) : CI l G yX3_isLive wsX3_isLive rm_X3_isLive [.ref a] [cS a v] (bI (F_X3_isLive v)) [cS a v] := by
  refine CI_of (own := RX3) (by decide +kernel) rfl rfl (Nat.le_of_ble_eq_true rfl) ?_
  intro pP eE sS mM args below meth cC A S hK hr hlk hmn hW ls hl
  have hx := S.1
  have hb := S.2.1
  have hl : lv_has ls 1 [(0, .ref a)] := hl
  have hW : Wd G A sS.heap [cS a v] sS.heap [] := hW
  refine lv_aload_n hx hb dX3_isLive_0 rfl (lv_at hl 0 rfl) ?_
  refine k_get (C := RX3) (T := TX3) (N := 7) (ci := 3) (v := .int v.1) S hK hW k_X3_isLive_in3 0 0 rfl rfl (by decide) k_X3_isLive_f9 rfl dX3_isLive_1 ?_
  refine lv_if_eq (tgt := 15) hx hb dX3_isLive_4 (by decide) (fun c_1 => ?_) (fun c_1 => ?_)
  ·
    refine lv_iconst (v := 1) hx hb dX3_isLive_15 (by decide) ?_
    refine lv_goto (tgt := 20) hx hb dX3_isLive_16 (by decide) ?_
    have eF : (F_X3_isLive v) = true := by
      unfold F_X3_isLive
      rw [if_pos c_1]
    exact k_zret (wf := [cS a v]) S hr hlk hK hW [0] rfl rfl rfl (congrArg (fun (z : Bool) => bI z) eF).symm dX3_isLive_20
  ·
    refine lv_aload_n hx hb dX3_isLive_7 rfl (lv_at hl 0 rfl) ?_
    refine k_get (C := RX3) (T := TX3) (N := 7) (ci := 3) (v := .int v.1) S hK hW k_X3_isLive_in3 0 0 rfl rfl (by decide) k_X3_isLive_f9 rfl dX3_isLive_8 ?_
    refine lv_iconst (v := 1) hx hb dX3_isLive_11 (by decide) ?_
    refine lv_icmp_ne (tgt := 19) hx hb dX3_isLive_12 (by decide) (fun c_2 => ?_) (fun c_2 => ?_)
    ·
      refine lv_iconst (v := 0) hx hb dX3_isLive_19 (by decide) ?_
      have eF : (F_X3_isLive v) = false := by
        unfold F_X3_isLive
        rw [if_neg c_1, if_neg c_2]
      exact k_zret (wf := [cS a v]) S hr hlk hK hW [0] rfl rfl rfl (congrArg (fun (z : Bool) => bI z) eF).symm dX3_isLive_20
    ·
      refine lv_iconst (v := 1) hx hb dX3_isLive_15 (by decide) ?_
      refine lv_goto (tgt := 20) hx hb dX3_isLive_16 (by decide) ?_
      have eF : (F_X3_isLive v) = true := by
        unfold F_X3_isLive
        rw [if_neg c_1, if_pos c_2]
      exact k_zret (wf := [cS a v]) S hr hlk hK hW [0] rfl rfl rfl (congrArg (fun (z : Bool) => bI z) eF).symm dX3_isLive_20
def F_X3_freePart (v : S7) : Int32 :=
  (if 0 < (v.2.1 - v.2.2.1) then (v.2.1 - v.2.2.1) else 0)
set_option maxRecDepth 100000 in
theorem k_X3_freePart_f15 : Cond.fieldLink RX3 15 "FlexiblePolicy$Standing" "account" "I" ∈ wsX3_freePart := by decide +kernel
set_option maxRecDepth 100000 in
theorem k_X3_freePart_in3 : ∀ w ∈ u_ws RX3 TX3 7, w ∈ wsX3_freePart := by decide +kernel
set_option maxRecDepth 100000 in
theorem k_X3_freePart_f18 : Cond.fieldLink RX3 18 "FlexiblePolicy$Standing" "loan" "I" ∈ wsX3_freePart := by decide +kernel
set_option maxRecDepth 100000 in
theorem k_X3_freePart_m33 : Cond.methodLink RX3 33 Lib.Math.max.name ∈ wsX3_freePart := by decide +kernel
set_option maxRecDepth 100000 in
theorem k_X3_freePart_ms33 : Cond.static Lib.Math.max.name ∈ wsX3_freePart := by decide +kernel
set_option maxRecDepth 100000 in
theorem k_X3_freePart_mi : Cond.initialized "java/lang/Math" ∈ wsX3_freePart := by decide +kernel
set_option maxRecDepth 100000 in
theorem k_X3_freePart_mc33 : Cond.code Lib.Math.max.name Lib.Math.max.code 2 (some .int) ∈ wsX3_freePart := by decide +kernel
theorem nd_X3_freePart : yX3_freePart.cls = RX3 ∧ yX3_freePart.cls ≠ "java/lang/invoke/MethodHandle" ∧ yX3_freePart.cls ≠ "java/lang/invoke/VarHandle" ∧ (parseMethodDescriptor yX3_freePart.desc).map (fun d => d.parameters.length) = some 0 := by decide +kernel
abbrev rm_X3_freePart : Room := { frames := 1, cells := 0, slots := 0, locals := 23 }
set_option maxHeartbeats 4000000 in
set_option maxRecDepth 100000 in
theorem c_X3_freePart (l : Launch) (G : GG) (a : Nat) (v : S7) : CI l G yX3_freePart wsX3_freePart rm_X3_freePart [.ref a] [cS a v] (F_X3_freePart v) [cS a v] := by
  refine CI_of (own := RX3) (by decide +kernel) rfl rfl (Nat.le_of_ble_eq_true rfl) ?_
  intro pP eE sS mM args below meth cC A S hK hr hlk hmn hW ls hl
  have hx := S.1
  have hb := S.2.1
  have hl : lv_has ls 1 [(0, .ref a)] := hl
  have hW : Wd G A sS.heap [cS a v] sS.heap [] := hW
  refine lv_iconst (v := 0) hx hb dX3_freePart_0 (by decide) ?_
  refine lv_aload_n hx hb dX3_freePart_1 rfl (lv_at hl 0 rfl) ?_
  refine k_get (C := RX3) (T := TX3) (N := 7) (ci := 3) (v := .int v.2.1) S hK hW k_X3_freePart_in3 0 1 rfl rfl (by decide) k_X3_freePart_f15 rfl dX3_freePart_2 ?_
  refine lv_aload_n hx hb dX3_freePart_5 rfl (lv_at hl 0 rfl) ?_
  refine k_get (C := RX3) (T := TX3) (N := 7) (ci := 3) (v := .int v.2.2.1) S hK hW k_X3_freePart_in3 0 2 rfl rfl (by decide) k_X3_freePart_f18 rfl dX3_freePart_6 ?_
  refine lv_isub hx hb dX3_freePart_9 ?_
  refine k_max S k_X3_freePart_m33 k_X3_freePart_ms33 k_X3_freePart_mi k_X3_freePart_mc33 hl.1 rfl rfl ⟨Nat.zero_le _, Nat.zero_le _⟩ dX3_freePart_10 ?_
  have eF : (F_X3_freePart v) = (if 0 < (v.2.1 - v.2.2.1) then (v.2.1 - v.2.2.1) else 0) := by
    rfl
  exact k_iret (wf := [cS a v]) S hr hlk hK hW [0] rfl rfl rfl (congrArg (fun (z : Int32) => z) eF).symm dX3_freePart_13
def F_X3_putInForce (v : S7) : S7 :=
  (0, v.2.1, v.2.2.1, v.2.2.2.1, 0, v.2.2.2.2.2.1, v.2.2.2.2.2.2)
set_option maxRecDepth 100000 in
theorem k_X3_putInForce_f9 : Cond.fieldLink RX3 9 "FlexiblePolicy$Standing" "state" "I" ∈ wsX3_putInForce := by decide +kernel
set_option maxRecDepth 100000 in
theorem k_X3_putInForce_in3 : ∀ w ∈ u_ws RX3 TX3 7, w ∈ wsX3_putInForce := by decide +kernel
set_option maxRecDepth 100000 in
theorem k_X3_putInForce_f24 : Cond.fieldLink RX3 24 "FlexiblePolicy$Standing" "grace" "I" ∈ wsX3_putInForce := by decide +kernel
theorem nd_X3_putInForce : yX3_putInForce.cls = RX3 ∧ yX3_putInForce.cls ≠ "java/lang/invoke/MethodHandle" ∧ yX3_putInForce.cls ≠ "java/lang/invoke/VarHandle" ∧ (parseMethodDescriptor yX3_putInForce.desc).map (fun d => d.parameters.length) = some 0 := by decide +kernel
abbrev rm_X3_putInForce : Room := { frames := 0, cells := 0, slots := 0, locals := 0 }
set_option maxHeartbeats 4000000 in
set_option maxRecDepth 100000 in
theorem c_X3_putInForce (l : Launch) (G : GG) (a : Nat) (v : S7) : CV l G yX3_putInForce wsX3_putInForce rm_X3_putInForce [.ref a] [cS a v] [cS a (F_X3_putInForce v)] := by
  refine CV_of (own := RX3) (by decide +kernel) rfl rfl (Nat.le_of_ble_eq_true rfl) ?_
  intro pP eE sS mM args below meth cC A S hK hr hlk hmn hW ls hl
  have hx := S.1
  have hb := S.2.1
  have hl : lv_has ls 1 [(0, .ref a)] := hl
  have hW : Wd G A sS.heap [cS a v] sS.heap [] := hW
  refine lv_aload_n hx hb dX3_putInForce_0 rfl (lv_at hl 0 rfl) ?_
  refine lv_iconst (v := 0) hx hb dX3_putInForce_1 (by decide) ?_
  refine k_put (C := RX3) (T := TX3) (N := 7) (ci := 3) (v := .int 0) (ws' := [cS a (0, v.2.1, v.2.2.1, v.2.2.2.1, v.2.2.2.2.1, v.2.2.2.2.2.1, v.2.2.2.2.2.2)]) S hK hW k_X3_putInForce_in3 tyX3_ok nmX3 0 0 rfl rfl (by decide) k_X3_putInForce_f9 rfl rfl rfl rfl rfl dX3_putInForce_2 (fun H locs hW => ?_)
  refine lv_aload_n hx hb dX3_putInForce_5 rfl (lv_at hl 0 rfl) ?_
  refine lv_iconst (v := 0) hx hb dX3_putInForce_6 (by decide) ?_
  refine k_put (C := RX3) (T := TX3) (N := 7) (ci := 3) (v := .int 0) (ws' := [cS a (0, v.2.1, v.2.2.1, v.2.2.2.1, 0, v.2.2.2.2.2.1, v.2.2.2.2.2.2)]) S hK hW k_X3_putInForce_in3 tyX3_ok nmX3 0 4 rfl rfl (by decide) k_X3_putInForce_f24 rfl rfl rfl rfl rfl dX3_putInForce_7 (fun H locs hW => ?_)
  have eF : (F_X3_putInForce v) = (0, v.2.1, v.2.2.1, v.2.2.2.1, 0, v.2.2.2.2.2.1, v.2.2.2.2.2.2) := by
    rfl
  exact k_vret (wf := [cS a (0, v.2.1, v.2.2.1, v.2.2.2.1, 0, v.2.2.2.2.2.1, v.2.2.2.2.2.2)]) S hr hlk hK hW [0] rfl rfl (congrArg (fun (z : S7) => [cS a z]) eF).symm dX3_putInForce_10
def F_X3_takePremium (v : S7) (x : Int32) : Bool × S7 :=
  if bI (F_X3_isLive v) = 0 then (false, v)
  else (if (v.2.2.2.1 - (if v.2.2.2.1 < x then v.2.2.2.1 else x)) = 0 then (true, (F_X3_putInForce (v.1, (v.2.1 + (x - (if v.2.2.2.1 < x then v.2.2.2.1 else x))), v.2.2.1, (v.2.2.2.1 - (if v.2.2.2.1 < x then v.2.2.2.1 else x)), v.2.2.2.2.1, v.2.2.2.2.2.1, v.2.2.2.2.2.2)))
    else (true, (v.1, (v.2.1 + (x - (if v.2.2.2.1 < x then v.2.2.2.1 else x))), v.2.2.1, (v.2.2.2.1 - (if v.2.2.2.1 < x then v.2.2.2.1 else x)), v.2.2.2.2.1, v.2.2.2.2.2.1, v.2.2.2.2.2.2)))
set_option maxRecDepth 100000 in
theorem k_X3_takePremium_f21 : Cond.fieldLink RX3 21 "FlexiblePolicy$Standing" "arrears" "I" ∈ wsX3_takePremium := by decide +kernel
set_option maxRecDepth 100000 in
theorem k_X3_takePremium_in3 : ∀ w ∈ u_ws RX3 TX3 7, w ∈ wsX3_takePremium := by decide +kernel
set_option maxRecDepth 100000 in
theorem k_X3_takePremium_m43 : Cond.methodLink RX3 43 Lib.Math.min.name ∈ wsX3_takePremium := by decide +kernel
set_option maxRecDepth 100000 in
theorem k_X3_takePremium_ms43 : Cond.static Lib.Math.min.name ∈ wsX3_takePremium := by decide +kernel
set_option maxRecDepth 100000 in
theorem k_X3_takePremium_mi : Cond.initialized "java/lang/Math" ∈ wsX3_takePremium := by decide +kernel
set_option maxRecDepth 100000 in
theorem k_X3_takePremium_mc43 : Cond.code Lib.Math.min.name Lib.Math.min.code 2 (some .int) ∈ wsX3_takePremium := by decide +kernel
set_option maxRecDepth 100000 in
theorem k_X3_takePremium_f15 : Cond.fieldLink RX3 15 "FlexiblePolicy$Standing" "account" "I" ∈ wsX3_takePremium := by decide +kernel
theorem nd_X3_takePremium : yX3_takePremium.cls = RX3 ∧ yX3_takePremium.cls ≠ "java/lang/invoke/MethodHandle" ∧ yX3_takePremium.cls ≠ "java/lang/invoke/VarHandle" ∧ (parseMethodDescriptor yX3_takePremium.desc).map (fun d => d.parameters.length) = some 1 := by decide +kernel
abbrev rm_X3_takePremium : Room := { frames := 1, cells := 0, slots := 0, locals := 23 }
set_option maxHeartbeats 4000000 in
set_option maxRecDepth 100000 in
theorem c_X3_takePremium (l : Launch) (G : GG) (a : Nat) (v : S7) (x : Int32) : CI l G yX3_takePremium wsX3_takePremium rm_X3_takePremium [.ref a, .int x] [cS a v] (bI ((F_X3_takePremium v x).1)) [cS a ((F_X3_takePremium v x).2)] := by
  refine CI_of (own := RX3) (by decide +kernel) rfl rfl (Nat.le_of_ble_eq_true rfl) ?_
  intro pP eE sS mM args below meth cC A S hK hr hlk hmn hW ls hl
  have hx := S.1
  have hb := S.2.1
  have hl : lv_has ls 3 [(0, .ref a), (1, .int x)] := hl
  have hW : Wd G A sS.heap [cS a v] sS.heap [] := hW
  refine lv_aload_n hx hb dX3_takePremium_0 rfl (lv_at hl 0 rfl) ?_
  refine k_callVi (C := RX3) (As := []) (rest := []) (wr := []) (c_X3_isLive l G a v) S hK hW gX3_takePremium_X3_isLive rfl ⟨rfl, rfl⟩ nd_X3_isLive ⟨rfl, rfl⟩ (qb := 0) (ci := 3) rfl rfl [0] [] rfl rfl rfl rfl (by decide) rfl hl.1 rfl dX3_takePremium_1 ⟨Nat.zero_le _, Nat.zero_le _⟩ (fun H locs hW => ?_)
  have hW : Wd G A sS.heap [cS a v] H locs := hW
  refine lv_if_ne (tgt := 9) hx hb dX3_takePremium_4 (by decide) (fun c_1 => ?_) (fun c_1 => ?_)
  ·
    refine lv_iload_n hx hb dX3_takePremium_9 rfl (lv_at hl 1 rfl) ?_
    refine lv_aload_n hx hb dX3_takePremium_10 rfl (lv_at hl 0 rfl) ?_
    refine k_get (C := RX3) (T := TX3) (N := 7) (ci := 3) (v := .int v.2.2.2.1) S hK hW k_X3_takePremium_in3 0 3 rfl rfl (by decide) k_X3_takePremium_f21 rfl dX3_takePremium_11 ?_
    refine k_min S k_X3_takePremium_m43 k_X3_takePremium_ms43 k_X3_takePremium_mi k_X3_takePremium_mc43 hl.1 rfl rfl ⟨Nat.zero_le _, Nat.zero_le _⟩ dX3_takePremium_14 ?_
    refine lv_istore_n (lv' := [(2, .int (if v.2.2.2.1 < x then v.2.2.2.1 else x)), (0, .ref a), (1, .int x)]) hx hb dX3_takePremium_17 rfl hl (by decide) rfl (fun ls hl => ?_)
    refine lv_aload_n hx hb dX3_takePremium_18 rfl (lv_at hl 1 rfl) ?_
    refine lv_dup hx hb dX3_takePremium_19 rfl ?_
    refine k_get (C := RX3) (T := TX3) (N := 7) (ci := 3) (v := .int v.2.2.2.1) S hK hW k_X3_takePremium_in3 0 3 rfl rfl (by decide) k_X3_takePremium_f21 rfl dX3_takePremium_20 ?_
    refine lv_iload_n hx hb dX3_takePremium_23 rfl (lv_at hl 0 rfl) ?_
    refine lv_isub hx hb dX3_takePremium_24 ?_
    refine lv_topi (fun z_2 ez_2 => ?_)
    refine k_put (C := RX3) (T := TX3) (N := 7) (ci := 3) (v := .int z_2) (ws' := [cS a (v.1, v.2.1, v.2.2.1, z_2, v.2.2.2.2.1, v.2.2.2.2.2.1, v.2.2.2.2.2.2)]) S hK hW k_X3_takePremium_in3 tyX3_ok nmX3 0 3 rfl rfl (by decide) k_X3_takePremium_f21 rfl rfl rfl rfl rfl dX3_takePremium_25 (fun H locs hW => ?_)
    refine lv_aload_n hx hb dX3_takePremium_28 rfl (lv_at hl 1 rfl) ?_
    refine lv_dup hx hb dX3_takePremium_29 rfl ?_
    refine k_get (C := RX3) (T := TX3) (N := 7) (ci := 3) (v := .int v.2.1) S hK hW k_X3_takePremium_in3 0 1 rfl rfl (by decide) k_X3_takePremium_f15 rfl dX3_takePremium_30 ?_
    refine lv_iload_n hx hb dX3_takePremium_33 rfl (lv_at hl 2 rfl) ?_
    refine lv_iload_n hx hb dX3_takePremium_34 rfl (lv_at hl 0 rfl) ?_
    refine lv_isub hx hb dX3_takePremium_35 ?_
    refine lv_iadd hx hb dX3_takePremium_36 ?_
    refine lv_topi (fun z_3 ez_3 => ?_)
    refine k_put (C := RX3) (T := TX3) (N := 7) (ci := 3) (v := .int z_3) (ws' := [cS a (v.1, z_3, v.2.2.1, z_2, v.2.2.2.2.1, v.2.2.2.2.2.1, v.2.2.2.2.2.2)]) S hK hW k_X3_takePremium_in3 tyX3_ok nmX3 0 1 rfl rfl (by decide) k_X3_takePremium_f15 rfl rfl rfl rfl rfl dX3_takePremium_37 (fun H locs hW => ?_)
    refine lv_aload_n hx hb dX3_takePremium_40 rfl (lv_at hl 1 rfl) ?_
    refine k_get (C := RX3) (T := TX3) (N := 7) (ci := 3) (v := .int z_2) S hK hW k_X3_takePremium_in3 0 3 rfl rfl (by decide) k_X3_takePremium_f21 rfl dX3_takePremium_41 ?_
    refine lv_if_ne (tgt := 51) hx hb dX3_takePremium_44 (by decide) (fun c_4 => ?_) (fun c_4 => ?_)
    ·
      refine lv_iconst (v := 1) hx hb dX3_takePremium_51 (by decide) ?_
      have hW9 := hW
      have hl9 := hl
      subst ez_2
      subst ez_3
      have eF : (F_X3_takePremium v x) = (true, (v.1, (v.2.1 + (x - (if v.2.2.2.1 < x then v.2.2.2.1 else x))), v.2.2.1, (v.2.2.2.1 - (if v.2.2.2.1 < x then v.2.2.2.1 else x)), v.2.2.2.2.1, v.2.2.2.2.2.1, v.2.2.2.2.2.2)) := by
        unfold F_X3_takePremium
        rw [if_neg c_1, if_neg c_4]
      exact k_zret (wf := [cS a (v.1, (v.2.1 + (x - (if v.2.2.2.1 < x then v.2.2.2.1 else x))), v.2.2.1, (v.2.2.2.1 - (if v.2.2.2.1 < x then v.2.2.2.1 else x)), v.2.2.2.2.1, v.2.2.2.2.2.1, v.2.2.2.2.2.2)]) S hr hlk hK hW9 [0] rfl rfl (congrArg (fun (z : Bool × S7) => [cS a z.2]) eF).symm (congrArg (fun (z : Bool × S7) => bI z.1) eF).symm dX3_takePremium_52
    ·
      refine lv_aload_n hx hb dX3_takePremium_47 rfl (lv_at hl 1 rfl) ?_
      refine k_callVv (C := RX3) (As := []) (rest := []) (wr := []) (c_X3_putInForce l G a (v.1, z_3, v.2.2.1, z_2, v.2.2.2.2.1, v.2.2.2.2.2.1, v.2.2.2.2.2.2)) S hK hW gX3_takePremium_X3_putInForce rfl ⟨rfl, rfl⟩ nd_X3_putInForce ⟨rfl, rfl⟩ (qb := 0) (ci := 3) rfl rfl [0] [] rfl rfl rfl rfl (by decide) rfl hl.1 rfl dX3_takePremium_48 ⟨Nat.zero_le _, Nat.zero_le _⟩ (fun H locs hW => ?_)
      have hW : Wd G A sS.heap [cS a (F_X3_putInForce (v.1, z_3, v.2.2.1, z_2, v.2.2.2.2.1, v.2.2.2.2.2.1, v.2.2.2.2.2.2))] H locs := hW
      refine lv_iconst (v := 1) hx hb dX3_takePremium_51 (by decide) ?_
      have hW9 := hW
      have hl9 := hl
      subst ez_2
      subst ez_3
      have eF : (F_X3_takePremium v x) = (true, (F_X3_putInForce (v.1, (v.2.1 + (x - (if v.2.2.2.1 < x then v.2.2.2.1 else x))), v.2.2.1, (v.2.2.2.1 - (if v.2.2.2.1 < x then v.2.2.2.1 else x)), v.2.2.2.2.1, v.2.2.2.2.2.1, v.2.2.2.2.2.2))) := by
        unfold F_X3_takePremium
        rw [if_neg c_1, if_pos c_4]
      exact k_zret (wf := [cS a (F_X3_putInForce (v.1, (v.2.1 + (x - (if v.2.2.2.1 < x then v.2.2.2.1 else x))), v.2.2.1, (v.2.2.2.1 - (if v.2.2.2.1 < x then v.2.2.2.1 else x)), v.2.2.2.2.1, v.2.2.2.2.2.1, v.2.2.2.2.2.2))]) S hr hlk hK hW9 [0] rfl rfl (congrArg (fun (z : Bool × S7) => [cS a z.2]) eF).symm (congrArg (fun (z : Bool × S7) => bI z.1) eF).symm dX3_takePremium_52
  ·
    refine lv_iconst (v := 0) hx hb dX3_takePremium_7 (by decide) ?_
    have eF : (F_X3_takePremium v x) = (false, v) := by
      unfold F_X3_takePremium
      rw [if_pos c_1]
    exact k_zret (wf := [cS a v]) S hr hlk hK hW [0] rfl rfl (congrArg (fun (z : Bool × S7) => [cS a z.2]) eF).symm (congrArg (fun (z : Bool × S7) => bI z.1) eF).symm dX3_takePremium_8
def F_X3_lend (v : S7) (x : Int32) : Bool × S7 :=
  if v.1 = 0 then (if x ≤ (F_X3_freePart v) then (true, (v.1, v.2.1, (v.2.2.1 + x), v.2.2.2.1, v.2.2.2.2.1, v.2.2.2.2.2.1, v.2.2.2.2.2.2))
    else (false, v))
  else (false, v)
set_option maxRecDepth 100000 in
theorem k_X3_lend_f9 : Cond.fieldLink RX3 9 "FlexiblePolicy$Standing" "state" "I" ∈ wsX3_lend := by decide +kernel
set_option maxRecDepth 100000 in
theorem k_X3_lend_in3 : ∀ w ∈ u_ws RX3 TX3 7, w ∈ wsX3_lend := by decide +kernel
set_option maxRecDepth 100000 in
theorem k_X3_lend_f18 : Cond.fieldLink RX3 18 "FlexiblePolicy$Standing" "loan" "I" ∈ wsX3_lend := by decide +kernel
theorem nd_X3_lend : yX3_lend.cls = RX3 ∧ yX3_lend.cls ≠ "java/lang/invoke/MethodHandle" ∧ yX3_lend.cls ≠ "java/lang/invoke/VarHandle" ∧ (parseMethodDescriptor yX3_lend.desc).map (fun d => d.parameters.length) = some 1 := by decide +kernel
abbrev rm_X3_lend : Room := { frames := 2, cells := 0, slots := 0, locals := 43 }
set_option maxHeartbeats 4000000 in
set_option maxRecDepth 100000 in
theorem c_X3_lend (l : Launch) (G : GG) (a : Nat) (v : S7) (x : Int32) : CI l G yX3_lend wsX3_lend rm_X3_lend [.ref a, .int x] [cS a v] (bI ((F_X3_lend v x).1)) [cS a ((F_X3_lend v x).2)] := by
  refine CI_of (own := RX3) (by decide +kernel) rfl rfl (Nat.le_of_ble_eq_true rfl) ?_
  intro pP eE sS mM args below meth cC A S hK hr hlk hmn hW ls hl
  have hx := S.1
  have hb := S.2.1
  have hl : lv_has ls 2 [(0, .ref a), (1, .int x)] := hl
  have hW : Wd G A sS.heap [cS a v] sS.heap [] := hW
  refine lv_aload_n hx hb dX3_lend_0 rfl (lv_at hl 0 rfl) ?_
  refine k_get (C := RX3) (T := TX3) (N := 7) (ci := 3) (v := .int v.1) S hK hW k_X3_lend_in3 0 0 rfl rfl (by decide) k_X3_lend_f9 rfl dX3_lend_1 ?_
  refine lv_if_ne (tgt := 15) hx hb dX3_lend_4 (by decide) (fun c_1 => ?_) (fun c_1 => ?_)
  ·
    refine lv_iconst (v := 0) hx hb dX3_lend_15 (by decide) ?_
    have eF : (F_X3_lend v x) = (false, v) := by
      unfold F_X3_lend
      rw [if_neg c_1]
    exact k_zret (wf := [cS a v]) S hr hlk hK hW [0] rfl rfl (congrArg (fun (z : Bool × S7) => [cS a z.2]) eF).symm (congrArg (fun (z : Bool × S7) => bI z.1) eF).symm dX3_lend_16
  ·
    refine lv_iload_n hx hb dX3_lend_7 rfl (lv_at hl 1 rfl) ?_
    refine lv_aload_n hx hb dX3_lend_8 rfl (lv_at hl 0 rfl) ?_
    refine k_callVi (C := RX3) (As := []) (rest := [.int x]) (wr := []) (c_X3_freePart l G a v) S hK hW gX3_lend_X3_freePart rfl ⟨rfl, rfl⟩ nd_X3_freePart ⟨rfl, rfl⟩ (qb := 0) (ci := 3) rfl rfl [0] [] rfl rfl rfl rfl (by decide) rfl hl.1 rfl dX3_lend_9 ⟨Nat.zero_le _, Nat.zero_le _⟩ (fun H locs hW => ?_)
    have hW : Wd G A sS.heap [cS a v] H locs := hW
    refine lv_icmp_le (tgt := 17) hx hb dX3_lend_12 (by decide) (fun c_2 => ?_) (fun c_2 => ?_)
    ·
      refine lv_aload_n hx hb dX3_lend_17 rfl (lv_at hl 0 rfl) ?_
      refine lv_dup hx hb dX3_lend_18 rfl ?_
      refine k_get (C := RX3) (T := TX3) (N := 7) (ci := 3) (v := .int v.2.2.1) S hK hW k_X3_lend_in3 0 2 rfl rfl (by decide) k_X3_lend_f18 rfl dX3_lend_19 ?_
      refine lv_iload_n hx hb dX3_lend_22 rfl (lv_at hl 1 rfl) ?_
      refine lv_iadd hx hb dX3_lend_23 ?_
      refine lv_topi (fun z_3 ez_3 => ?_)
      refine k_put (C := RX3) (T := TX3) (N := 7) (ci := 3) (v := .int z_3) (ws' := [cS a (v.1, v.2.1, z_3, v.2.2.2.1, v.2.2.2.2.1, v.2.2.2.2.2.1, v.2.2.2.2.2.2)]) S hK hW k_X3_lend_in3 tyX3_ok nmX3 0 2 rfl rfl (by decide) k_X3_lend_f18 rfl rfl rfl rfl rfl dX3_lend_24 (fun H locs hW => ?_)
      refine lv_iconst (v := 1) hx hb dX3_lend_27 (by decide) ?_
      have hW9 := hW
      have hl9 := hl
      subst ez_3
      have eF : (F_X3_lend v x) = (true, (v.1, v.2.1, (v.2.2.1 + x), v.2.2.2.1, v.2.2.2.2.1, v.2.2.2.2.2.1, v.2.2.2.2.2.2)) := by
        unfold F_X3_lend
        rw [if_pos c_1, if_pos c_2]
      exact k_zret (wf := [cS a (v.1, v.2.1, (v.2.2.1 + x), v.2.2.2.1, v.2.2.2.2.1, v.2.2.2.2.2.1, v.2.2.2.2.2.2)]) S hr hlk hK hW9 [0] rfl rfl (congrArg (fun (z : Bool × S7) => [cS a z.2]) eF).symm (congrArg (fun (z : Bool × S7) => bI z.1) eF).symm dX3_lend_28
    ·
      refine lv_iconst (v := 0) hx hb dX3_lend_15 (by decide) ?_
      have eF : (F_X3_lend v x) = (false, v) := by
        unfold F_X3_lend
        rw [if_pos c_1, if_neg c_2]
      exact k_zret (wf := [cS a v]) S hr hlk hK hW [0] rfl rfl (congrArg (fun (z : Bool × S7) => [cS a z.2]) eF).symm (congrArg (fun (z : Bool × S7) => bI z.1) eF).symm dX3_lend_16
def F_X3_repay (v : S7) (x : Int32) : Bool × S7 :=
  if bI (F_X3_isLive v) = 0 then (false, v)
  else (if x ≤ v.2.2.1 then (true, (v.1, v.2.1, (v.2.2.1 - x), v.2.2.2.1, v.2.2.2.2.1, v.2.2.2.2.2.1, v.2.2.2.2.2.2))
    else (false, v))
set_option maxRecDepth 100000 in
theorem k_X3_repay_f18 : Cond.fieldLink RX3 18 "FlexiblePolicy$Standing" "loan" "I" ∈ wsX3_repay := by decide +kernel
set_option maxRecDepth 100000 in
theorem k_X3_repay_in3 : ∀ w ∈ u_ws RX3 TX3 7, w ∈ wsX3_repay := by decide +kernel
theorem nd_X3_repay : yX3_repay.cls = RX3 ∧ yX3_repay.cls ≠ "java/lang/invoke/MethodHandle" ∧ yX3_repay.cls ≠ "java/lang/invoke/VarHandle" ∧ (parseMethodDescriptor yX3_repay.desc).map (fun d => d.parameters.length) = some 1 := by decide +kernel
abbrev rm_X3_repay : Room := { frames := 1, cells := 0, slots := 0, locals := 20 }
set_option maxHeartbeats 4000000 in
set_option maxRecDepth 100000 in
theorem c_X3_repay (l : Launch) (G : GG) (a : Nat) (v : S7) (x : Int32) : CI l G yX3_repay wsX3_repay rm_X3_repay [.ref a, .int x] [cS a v] (bI ((F_X3_repay v x).1)) [cS a ((F_X3_repay v x).2)] := by
  refine CI_of (own := RX3) (by decide +kernel) rfl rfl (Nat.le_of_ble_eq_true rfl) ?_
  intro pP eE sS mM args below meth cC A S hK hr hlk hmn hW ls hl
  have hx := S.1
  have hb := S.2.1
  have hl : lv_has ls 2 [(0, .ref a), (1, .int x)] := hl
  have hW : Wd G A sS.heap [cS a v] sS.heap [] := hW
  refine lv_aload_n hx hb dX3_repay_0 rfl (lv_at hl 0 rfl) ?_
  refine k_callVi (C := RX3) (As := []) (rest := []) (wr := []) (c_X3_isLive l G a v) S hK hW gX3_repay_X3_isLive rfl ⟨rfl, rfl⟩ nd_X3_isLive ⟨rfl, rfl⟩ (qb := 0) (ci := 3) rfl rfl [0] [] rfl rfl rfl rfl (by decide) rfl hl.1 rfl dX3_repay_1 ⟨Nat.zero_le _, Nat.zero_le _⟩ (fun H locs hW => ?_)
  have hW : Wd G A sS.heap [cS a v] H locs := hW
  refine lv_if_eq (tgt := 15) hx hb dX3_repay_4 (by decide) (fun c_1 => ?_) (fun c_1 => ?_)
  ·
    refine lv_iconst (v := 0) hx hb dX3_repay_15 (by decide) ?_
    have eF : (F_X3_repay v x) = (false, v) := by
      unfold F_X3_repay
      rw [if_pos c_1]
    exact k_zret (wf := [cS a v]) S hr hlk hK hW [0] rfl rfl (congrArg (fun (z : Bool × S7) => [cS a z.2]) eF).symm (congrArg (fun (z : Bool × S7) => bI z.1) eF).symm dX3_repay_16
  ·
    refine lv_iload_n hx hb dX3_repay_7 rfl (lv_at hl 1 rfl) ?_
    refine lv_aload_n hx hb dX3_repay_8 rfl (lv_at hl 0 rfl) ?_
    refine k_get (C := RX3) (T := TX3) (N := 7) (ci := 3) (v := .int v.2.2.1) S hK hW k_X3_repay_in3 0 2 rfl rfl (by decide) k_X3_repay_f18 rfl dX3_repay_9 ?_
    refine lv_icmp_le (tgt := 17) hx hb dX3_repay_12 (by decide) (fun c_2 => ?_) (fun c_2 => ?_)
    ·
      refine lv_aload_n hx hb dX3_repay_17 rfl (lv_at hl 0 rfl) ?_
      refine lv_dup hx hb dX3_repay_18 rfl ?_
      refine k_get (C := RX3) (T := TX3) (N := 7) (ci := 3) (v := .int v.2.2.1) S hK hW k_X3_repay_in3 0 2 rfl rfl (by decide) k_X3_repay_f18 rfl dX3_repay_19 ?_
      refine lv_iload_n hx hb dX3_repay_22 rfl (lv_at hl 1 rfl) ?_
      refine lv_isub hx hb dX3_repay_23 ?_
      refine lv_topi (fun z_3 ez_3 => ?_)
      refine k_put (C := RX3) (T := TX3) (N := 7) (ci := 3) (v := .int z_3) (ws' := [cS a (v.1, v.2.1, z_3, v.2.2.2.1, v.2.2.2.2.1, v.2.2.2.2.2.1, v.2.2.2.2.2.2)]) S hK hW k_X3_repay_in3 tyX3_ok nmX3 0 2 rfl rfl (by decide) k_X3_repay_f18 rfl rfl rfl rfl rfl dX3_repay_24 (fun H locs hW => ?_)
      refine lv_iconst (v := 1) hx hb dX3_repay_27 (by decide) ?_
      have hW9 := hW
      have hl9 := hl
      subst ez_3
      have eF : (F_X3_repay v x) = (true, (v.1, v.2.1, (v.2.2.1 - x), v.2.2.2.1, v.2.2.2.2.1, v.2.2.2.2.2.1, v.2.2.2.2.2.2)) := by
        unfold F_X3_repay
        rw [if_neg c_1, if_pos c_2]
      exact k_zret (wf := [cS a (v.1, v.2.1, (v.2.2.1 - x), v.2.2.2.1, v.2.2.2.2.1, v.2.2.2.2.2.1, v.2.2.2.2.2.2)]) S hr hlk hK hW9 [0] rfl rfl (congrArg (fun (z : Bool × S7) => [cS a z.2]) eF).symm (congrArg (fun (z : Bool × S7) => bI z.1) eF).symm dX3_repay_28
    ·
      refine lv_iconst (v := 0) hx hb dX3_repay_15 (by decide) ?_
      have eF : (F_X3_repay v x) = (false, v) := by
        unfold F_X3_repay
        rw [if_neg c_1, if_neg c_2]
      exact k_zret (wf := [cS a v]) S hr hlk hK hW [0] rfl rfl (congrArg (fun (z : Bool × S7) => [cS a z.2]) eF).symm (congrArg (fun (z : Bool × S7) => bI z.1) eF).symm dX3_repay_16
def F_X3_withdraw (v : S7) (x : Int32) : Bool × S7 :=
  if v.1 = 0 then (if x ≤ (F_X3_freePart v) then (true, (v.1, (v.2.1 - x), v.2.2.1, v.2.2.2.1, v.2.2.2.2.1, v.2.2.2.2.2.1, v.2.2.2.2.2.2))
    else (false, v))
  else (false, v)
set_option maxRecDepth 100000 in
theorem k_X3_withdraw_f9 : Cond.fieldLink RX3 9 "FlexiblePolicy$Standing" "state" "I" ∈ wsX3_withdraw := by decide +kernel
set_option maxRecDepth 100000 in
theorem k_X3_withdraw_in3 : ∀ w ∈ u_ws RX3 TX3 7, w ∈ wsX3_withdraw := by decide +kernel
set_option maxRecDepth 100000 in
theorem k_X3_withdraw_f15 : Cond.fieldLink RX3 15 "FlexiblePolicy$Standing" "account" "I" ∈ wsX3_withdraw := by decide +kernel
theorem nd_X3_withdraw : yX3_withdraw.cls = RX3 ∧ yX3_withdraw.cls ≠ "java/lang/invoke/MethodHandle" ∧ yX3_withdraw.cls ≠ "java/lang/invoke/VarHandle" ∧ (parseMethodDescriptor yX3_withdraw.desc).map (fun d => d.parameters.length) = some 1 := by decide +kernel
abbrev rm_X3_withdraw : Room := { frames := 2, cells := 0, slots := 0, locals := 43 }
set_option maxHeartbeats 4000000 in
set_option maxRecDepth 100000 in
theorem c_X3_withdraw (l : Launch) (G : GG) (a : Nat) (v : S7) (x : Int32) : CI l G yX3_withdraw wsX3_withdraw rm_X3_withdraw [.ref a, .int x] [cS a v] (bI ((F_X3_withdraw v x).1)) [cS a ((F_X3_withdraw v x).2)] := by
  refine CI_of (own := RX3) (by decide +kernel) rfl rfl (Nat.le_of_ble_eq_true rfl) ?_
  intro pP eE sS mM args below meth cC A S hK hr hlk hmn hW ls hl
  have hx := S.1
  have hb := S.2.1
  have hl : lv_has ls 2 [(0, .ref a), (1, .int x)] := hl
  have hW : Wd G A sS.heap [cS a v] sS.heap [] := hW
  refine lv_aload_n hx hb dX3_withdraw_0 rfl (lv_at hl 0 rfl) ?_
  refine k_get (C := RX3) (T := TX3) (N := 7) (ci := 3) (v := .int v.1) S hK hW k_X3_withdraw_in3 0 0 rfl rfl (by decide) k_X3_withdraw_f9 rfl dX3_withdraw_1 ?_
  refine lv_if_ne (tgt := 15) hx hb dX3_withdraw_4 (by decide) (fun c_1 => ?_) (fun c_1 => ?_)
  ·
    refine lv_iconst (v := 0) hx hb dX3_withdraw_15 (by decide) ?_
    have eF : (F_X3_withdraw v x) = (false, v) := by
      unfold F_X3_withdraw
      rw [if_neg c_1]
    exact k_zret (wf := [cS a v]) S hr hlk hK hW [0] rfl rfl (congrArg (fun (z : Bool × S7) => [cS a z.2]) eF).symm (congrArg (fun (z : Bool × S7) => bI z.1) eF).symm dX3_withdraw_16
  ·
    refine lv_iload_n hx hb dX3_withdraw_7 rfl (lv_at hl 1 rfl) ?_
    refine lv_aload_n hx hb dX3_withdraw_8 rfl (lv_at hl 0 rfl) ?_
    refine k_callVi (C := RX3) (As := []) (rest := [.int x]) (wr := []) (c_X3_freePart l G a v) S hK hW gX3_withdraw_X3_freePart rfl ⟨rfl, rfl⟩ nd_X3_freePart ⟨rfl, rfl⟩ (qb := 0) (ci := 3) rfl rfl [0] [] rfl rfl rfl rfl (by decide) rfl hl.1 rfl dX3_withdraw_9 ⟨Nat.zero_le _, Nat.zero_le _⟩ (fun H locs hW => ?_)
    have hW : Wd G A sS.heap [cS a v] H locs := hW
    refine lv_icmp_le (tgt := 17) hx hb dX3_withdraw_12 (by decide) (fun c_2 => ?_) (fun c_2 => ?_)
    ·
      refine lv_aload_n hx hb dX3_withdraw_17 rfl (lv_at hl 0 rfl) ?_
      refine lv_dup hx hb dX3_withdraw_18 rfl ?_
      refine k_get (C := RX3) (T := TX3) (N := 7) (ci := 3) (v := .int v.2.1) S hK hW k_X3_withdraw_in3 0 1 rfl rfl (by decide) k_X3_withdraw_f15 rfl dX3_withdraw_19 ?_
      refine lv_iload_n hx hb dX3_withdraw_22 rfl (lv_at hl 1 rfl) ?_
      refine lv_isub hx hb dX3_withdraw_23 ?_
      refine lv_topi (fun z_3 ez_3 => ?_)
      refine k_put (C := RX3) (T := TX3) (N := 7) (ci := 3) (v := .int z_3) (ws' := [cS a (v.1, z_3, v.2.2.1, v.2.2.2.1, v.2.2.2.2.1, v.2.2.2.2.2.1, v.2.2.2.2.2.2)]) S hK hW k_X3_withdraw_in3 tyX3_ok nmX3 0 1 rfl rfl (by decide) k_X3_withdraw_f15 rfl rfl rfl rfl rfl dX3_withdraw_24 (fun H locs hW => ?_)
      refine lv_iconst (v := 1) hx hb dX3_withdraw_27 (by decide) ?_
      have hW9 := hW
      have hl9 := hl
      subst ez_3
      have eF : (F_X3_withdraw v x) = (true, (v.1, (v.2.1 - x), v.2.2.1, v.2.2.2.1, v.2.2.2.2.1, v.2.2.2.2.2.1, v.2.2.2.2.2.2)) := by
        unfold F_X3_withdraw
        rw [if_pos c_1, if_pos c_2]
      exact k_zret (wf := [cS a (v.1, (v.2.1 - x), v.2.2.1, v.2.2.2.1, v.2.2.2.2.1, v.2.2.2.2.2.1, v.2.2.2.2.2.2)]) S hr hlk hK hW9 [0] rfl rfl (congrArg (fun (z : Bool × S7) => [cS a z.2]) eF).symm (congrArg (fun (z : Bool × S7) => bI z.1) eF).symm dX3_withdraw_28
    ·
      refine lv_iconst (v := 0) hx hb dX3_withdraw_15 (by decide) ?_
      have eF : (F_X3_withdraw v x) = (false, v) := by
        unfold F_X3_withdraw
        rw [if_pos c_1, if_neg c_2]
      exact k_zret (wf := [cS a v]) S hr hlk hK hW [0] rfl rfl (congrArg (fun (z : Bool × S7) => [cS a z.2]) eF).symm (congrArg (fun (z : Bool × S7) => bI z.1) eF).symm dX3_withdraw_16
def F_X3_revive (v : S7) (x : Int32) (m : Int32) : Bool × S7 :=
  if v.1 = 2 then (if 24 ≤ (m - v.2.2.2.2.2.1) then (false, v)
    else (if (v.2.2.2.1 + (500 * (m - v.2.2.2.2.2.1))) ≤ x then (true, (F_X3_putInForce (v.1, (v.2.1 + (x - (v.2.2.2.1 + (500 * (m - v.2.2.2.2.2.1))))), v.2.2.1, 0, v.2.2.2.2.1, v.2.2.2.2.2.1, v.2.2.2.2.2.2)))
      else (false, v)))
  else (false, v)
set_option maxRecDepth 100000 in
theorem k_X3_revive_f9 : Cond.fieldLink RX3 9 "FlexiblePolicy$Standing" "state" "I" ∈ wsX3_revive := by decide +kernel
set_option maxRecDepth 100000 in
theorem k_X3_revive_in3 : ∀ w ∈ u_ws RX3 TX3 7, w ∈ wsX3_revive := by decide +kernel
set_option maxRecDepth 100000 in
theorem k_X3_revive_f27 : Cond.fieldLink RX3 27 "FlexiblePolicy$Standing" "lapsedFrom" "I" ∈ wsX3_revive := by decide +kernel
set_option maxRecDepth 100000 in
theorem k_X3_revive_f21 : Cond.fieldLink RX3 21 "FlexiblePolicy$Standing" "arrears" "I" ∈ wsX3_revive := by decide +kernel
set_option maxRecDepth 100000 in
theorem k_X3_revive_f15 : Cond.fieldLink RX3 15 "FlexiblePolicy$Standing" "account" "I" ∈ wsX3_revive := by decide +kernel
theorem nd_X3_revive : yX3_revive.cls = RX3 ∧ yX3_revive.cls ≠ "java/lang/invoke/MethodHandle" ∧ yX3_revive.cls ≠ "java/lang/invoke/VarHandle" ∧ (parseMethodDescriptor yX3_revive.desc).map (fun d => d.parameters.length) = some 2 := by decide +kernel
abbrev rm_X3_revive : Room := { frames := 1, cells := 0, slots := 0, locals := 20 }
set_option maxHeartbeats 4000000 in
set_option maxRecDepth 100000 in
theorem c_X3_revive (l : Launch) (G : GG) (a : Nat) (v : S7) (x : Int32) (m : Int32) : CI l G yX3_revive wsX3_revive rm_X3_revive [.ref a, .int x, .int m] [cS a v] (bI ((F_X3_revive v x m).1)) [cS a ((F_X3_revive v x m).2)] := by
  refine CI_of (own := RX3) (by decide +kernel) rfl rfl (Nat.le_of_ble_eq_true rfl) ?_
  intro pP eE sS mM args below meth cC A S hK hr hlk hmn hW ls hl
  have hx := S.1
  have hb := S.2.1
  have hl : lv_has ls 5 [(0, .ref a), (1, .int x), (2, .int m)] := hl
  have hW : Wd G A sS.heap [cS a v] sS.heap [] := hW
  refine lv_aload_n hx hb dX3_revive_0 rfl (lv_at hl 0 rfl) ?_
  refine k_get (C := RX3) (T := TX3) (N := 7) (ci := 3) (v := .int v.1) S hK hW k_X3_revive_in3 0 0 rfl rfl (by decide) k_X3_revive_f9 rfl dX3_revive_1 ?_
  refine lv_iconst (v := 2) hx hb dX3_revive_4 (by decide) ?_
  refine lv_icmp_eq (tgt := 10) hx hb dX3_revive_5 (by decide) (fun c_1 => ?_) (fun c_1 => ?_)
  ·
    refine lv_iload_n hx hb dX3_revive_10 rfl (lv_at hl 2 rfl) ?_
    refine lv_aload_n hx hb dX3_revive_11 rfl (lv_at hl 0 rfl) ?_
    refine k_get (C := RX3) (T := TX3) (N := 7) (ci := 3) (v := .int v.2.2.2.2.2.1) S hK hW k_X3_revive_in3 0 5 rfl rfl (by decide) k_X3_revive_f27 rfl dX3_revive_12 ?_
    refine lv_isub hx hb dX3_revive_15 ?_
    refine lv_istore_n (lv' := [(3, .int (m - v.2.2.2.2.2.1)), (0, .ref a), (1, .int x), (2, .int m)]) hx hb dX3_revive_16 rfl hl (by decide) rfl (fun ls hl => ?_)
    refine lv_aload_n hx hb dX3_revive_17 rfl (lv_at hl 1 rfl) ?_
    refine k_get (C := RX3) (T := TX3) (N := 7) (ci := 3) (v := .int v.2.2.2.1) S hK hW k_X3_revive_in3 0 3 rfl rfl (by decide) k_X3_revive_f21 rfl dX3_revive_18 ?_
    refine lv_sipush (v := 500) hx hb dX3_revive_21 (by decide) ?_
    refine lv_iload_n hx hb dX3_revive_24 rfl (lv_at hl 0 rfl) ?_
    refine lv_imul hx hb dX3_revive_25 ?_
    refine lv_iadd hx hb dX3_revive_26 ?_
    refine lv_istore (lv' := [(4, .int (v.2.2.2.1 + (500 * (m - v.2.2.2.2.2.1)))), (3, .int (m - v.2.2.2.2.2.1)), (0, .ref a), (1, .int x), (2, .int m)]) hx hb dX3_revive_27 hl (by decide) rfl (fun ls hl => ?_)
    refine lv_iload_n hx hb dX3_revive_29 rfl (lv_at hl 1 rfl) ?_
    refine lv_bipush (v := 24) hx hb dX3_revive_30 (by decide) ?_
    refine lv_icmp_ge (tgt := 41) hx hb dX3_revive_32 (by decide) (fun c_2 => ?_) (fun c_2 => ?_)
    ·
      refine lv_iconst (v := 0) hx hb dX3_revive_41 (by decide) ?_
      have eF : (F_X3_revive v x m) = (false, v) := by
        unfold F_X3_revive
        rw [if_pos c_1, if_pos c_2]
      exact k_zret (wf := [cS a v]) S hr hlk hK hW [0] rfl rfl (congrArg (fun (z : Bool × S7) => [cS a z.2]) eF).symm (congrArg (fun (z : Bool × S7) => bI z.1) eF).symm dX3_revive_42
    ·
      refine lv_iload_n hx hb dX3_revive_35 rfl (lv_at hl 3 rfl) ?_
      refine lv_iload hx hb dX3_revive_36 (lv_at hl 0 rfl) ?_
      refine lv_icmp_ge (tgt := 43) hx hb dX3_revive_38 (by decide) (fun c_3 => ?_) (fun c_3 => ?_)
      ·
        refine lv_aload_n hx hb dX3_revive_43 rfl (lv_at hl 2 rfl) ?_
        refine lv_dup hx hb dX3_revive_44 rfl ?_
        refine k_get (C := RX3) (T := TX3) (N := 7) (ci := 3) (v := .int v.2.1) S hK hW k_X3_revive_in3 0 1 rfl rfl (by decide) k_X3_revive_f15 rfl dX3_revive_45 ?_
        refine lv_iload_n hx hb dX3_revive_48 rfl (lv_at hl 3 rfl) ?_
        refine lv_iload hx hb dX3_revive_49 (lv_at hl 0 rfl) ?_
        refine lv_isub hx hb dX3_revive_51 ?_
        refine lv_iadd hx hb dX3_revive_52 ?_
        refine lv_topi (fun z_4 ez_4 => ?_)
        refine k_put (C := RX3) (T := TX3) (N := 7) (ci := 3) (v := .int z_4) (ws' := [cS a (v.1, z_4, v.2.2.1, v.2.2.2.1, v.2.2.2.2.1, v.2.2.2.2.2.1, v.2.2.2.2.2.2)]) S hK hW k_X3_revive_in3 tyX3_ok nmX3 0 1 rfl rfl (by decide) k_X3_revive_f15 rfl rfl rfl rfl rfl dX3_revive_53 (fun H locs hW => ?_)
        refine lv_aload_n hx hb dX3_revive_56 rfl (lv_at hl 2 rfl) ?_
        refine lv_iconst (v := 0) hx hb dX3_revive_57 (by decide) ?_
        refine k_put (C := RX3) (T := TX3) (N := 7) (ci := 3) (v := .int 0) (ws' := [cS a (v.1, z_4, v.2.2.1, 0, v.2.2.2.2.1, v.2.2.2.2.2.1, v.2.2.2.2.2.2)]) S hK hW k_X3_revive_in3 tyX3_ok nmX3 0 3 rfl rfl (by decide) k_X3_revive_f21 rfl rfl rfl rfl rfl dX3_revive_58 (fun H locs hW => ?_)
        refine lv_aload_n hx hb dX3_revive_61 rfl (lv_at hl 2 rfl) ?_
        refine k_callVv (C := RX3) (As := []) (rest := []) (wr := []) (c_X3_putInForce l G a (v.1, z_4, v.2.2.1, 0, v.2.2.2.2.1, v.2.2.2.2.2.1, v.2.2.2.2.2.2)) S hK hW gX3_revive_X3_putInForce rfl ⟨rfl, rfl⟩ nd_X3_putInForce ⟨rfl, rfl⟩ (qb := 0) (ci := 3) rfl rfl [0] [] rfl rfl rfl rfl (by decide) rfl hl.1 rfl dX3_revive_62 ⟨Nat.zero_le _, Nat.zero_le _⟩ (fun H locs hW => ?_)
        have hW : Wd G A sS.heap [cS a (F_X3_putInForce (v.1, z_4, v.2.2.1, 0, v.2.2.2.2.1, v.2.2.2.2.2.1, v.2.2.2.2.2.2))] H locs := hW
        refine lv_iconst (v := 1) hx hb dX3_revive_65 (by decide) ?_
        have hW9 := hW
        have hl9 := hl
        subst ez_4
        have eF : (F_X3_revive v x m) = (true, (F_X3_putInForce (v.1, (v.2.1 + (x - (v.2.2.2.1 + (500 * (m - v.2.2.2.2.2.1))))), v.2.2.1, 0, v.2.2.2.2.1, v.2.2.2.2.2.1, v.2.2.2.2.2.2))) := by
          unfold F_X3_revive
          rw [if_pos c_1, if_neg c_2, if_pos c_3]
        exact k_zret (wf := [cS a (F_X3_putInForce (v.1, (v.2.1 + (x - (v.2.2.2.1 + (500 * (m - v.2.2.2.2.2.1))))), v.2.2.1, 0, v.2.2.2.2.1, v.2.2.2.2.2.1, v.2.2.2.2.2.2))]) S hr hlk hK hW9 [0] rfl rfl (congrArg (fun (z : Bool × S7) => [cS a z.2]) eF).symm (congrArg (fun (z : Bool × S7) => bI z.1) eF).symm dX3_revive_66
      ·
        refine lv_iconst (v := 0) hx hb dX3_revive_41 (by decide) ?_
        have eF : (F_X3_revive v x m) = (false, v) := by
          unfold F_X3_revive
          rw [if_pos c_1, if_neg c_2, if_neg c_3]
        exact k_zret (wf := [cS a v]) S hr hlk hK hW [0] rfl rfl (congrArg (fun (z : Bool × S7) => [cS a z.2]) eF).symm (congrArg (fun (z : Bool × S7) => bI z.1) eF).symm dX3_revive_42
  ·
    refine lv_iconst (v := 0) hx hb dX3_revive_8 (by decide) ?_
    have eF : (F_X3_revive v x m) = (false, v) := by
      unfold F_X3_revive
      rw [if_neg c_1]
    exact k_zret (wf := [cS a v]) S hr hlk hK hW [0] rfl rfl (congrArg (fun (z : Bool × S7) => [cS a z.2]) eF).symm (congrArg (fun (z : Bool × S7) => bI z.1) eF).symm dX3_revive_9
def F_X3_die (v : S7) (x : Int32) : Bool × S7 :=
  if bI (F_X3_isLive v) = 0 then (false, v)
  else (true, (3, v.2.1, v.2.2.1, v.2.2.2.1, 0, v.2.2.2.2.2.1, (if 0 < (x - v.2.2.1) then (x - v.2.2.1) else 0)))
set_option maxRecDepth 100000 in
theorem k_X3_die_f18 : Cond.fieldLink RX3 18 "FlexiblePolicy$Standing" "loan" "I" ∈ wsX3_die := by decide +kernel
set_option maxRecDepth 100000 in
theorem k_X3_die_in3 : ∀ w ∈ u_ws RX3 TX3 7, w ∈ wsX3_die := by decide +kernel
set_option maxRecDepth 100000 in
theorem k_X3_die_m33 : Cond.methodLink RX3 33 Lib.Math.max.name ∈ wsX3_die := by decide +kernel
set_option maxRecDepth 100000 in
theorem k_X3_die_ms33 : Cond.static Lib.Math.max.name ∈ wsX3_die := by decide +kernel
set_option maxRecDepth 100000 in
theorem k_X3_die_mi : Cond.initialized "java/lang/Math" ∈ wsX3_die := by decide +kernel
set_option maxRecDepth 100000 in
theorem k_X3_die_mc33 : Cond.code Lib.Math.max.name Lib.Math.max.code 2 (some .int) ∈ wsX3_die := by decide +kernel
set_option maxRecDepth 100000 in
theorem k_X3_die_f30 : Cond.fieldLink RX3 30 "FlexiblePolicy$Standing" "paid" "I" ∈ wsX3_die := by decide +kernel
set_option maxRecDepth 100000 in
theorem k_X3_die_f9 : Cond.fieldLink RX3 9 "FlexiblePolicy$Standing" "state" "I" ∈ wsX3_die := by decide +kernel
set_option maxRecDepth 100000 in
theorem k_X3_die_f24 : Cond.fieldLink RX3 24 "FlexiblePolicy$Standing" "grace" "I" ∈ wsX3_die := by decide +kernel
theorem nd_X3_die : yX3_die.cls = RX3 ∧ yX3_die.cls ≠ "java/lang/invoke/MethodHandle" ∧ yX3_die.cls ≠ "java/lang/invoke/VarHandle" ∧ (parseMethodDescriptor yX3_die.desc).map (fun d => d.parameters.length) = some 1 := by decide +kernel
abbrev rm_X3_die : Room := { frames := 1, cells := 0, slots := 0, locals := 23 }
set_option maxHeartbeats 4000000 in
set_option maxRecDepth 100000 in
theorem c_X3_die (l : Launch) (G : GG) (a : Nat) (v : S7) (x : Int32) : CI l G yX3_die wsX3_die rm_X3_die [.ref a, .int x] [cS a v] (bI ((F_X3_die v x).1)) [cS a ((F_X3_die v x).2)] := by
  refine CI_of (own := RX3) (by decide +kernel) rfl rfl (Nat.le_of_ble_eq_true rfl) ?_
  intro pP eE sS mM args below meth cC A S hK hr hlk hmn hW ls hl
  have hx := S.1
  have hb := S.2.1
  have hl : lv_has ls 2 [(0, .ref a), (1, .int x)] := hl
  have hW : Wd G A sS.heap [cS a v] sS.heap [] := hW
  refine lv_aload_n hx hb dX3_die_0 rfl (lv_at hl 0 rfl) ?_
  refine k_callVi (C := RX3) (As := []) (rest := []) (wr := []) (c_X3_isLive l G a v) S hK hW gX3_die_X3_isLive rfl ⟨rfl, rfl⟩ nd_X3_isLive ⟨rfl, rfl⟩ (qb := 0) (ci := 3) rfl rfl [0] [] rfl rfl rfl rfl (by decide) rfl hl.1 rfl dX3_die_1 ⟨Nat.zero_le _, Nat.zero_le _⟩ (fun H locs hW => ?_)
  have hW : Wd G A sS.heap [cS a v] H locs := hW
  refine lv_if_ne (tgt := 9) hx hb dX3_die_4 (by decide) (fun c_1 => ?_) (fun c_1 => ?_)
  ·
    refine lv_aload_n hx hb dX3_die_9 rfl (lv_at hl 0 rfl) ?_
    refine lv_iconst (v := 0) hx hb dX3_die_10 (by decide) ?_
    refine lv_iload_n hx hb dX3_die_11 rfl (lv_at hl 1 rfl) ?_
    refine lv_aload_n hx hb dX3_die_12 rfl (lv_at hl 0 rfl) ?_
    refine k_get (C := RX3) (T := TX3) (N := 7) (ci := 3) (v := .int v.2.2.1) S hK hW k_X3_die_in3 0 2 rfl rfl (by decide) k_X3_die_f18 rfl dX3_die_13 ?_
    refine lv_isub hx hb dX3_die_16 ?_
    refine k_max S k_X3_die_m33 k_X3_die_ms33 k_X3_die_mi k_X3_die_mc33 hl.1 rfl rfl ⟨Nat.zero_le _, Nat.zero_le _⟩ dX3_die_17 ?_
    refine lv_topi (fun z_2 ez_2 => ?_)
    refine k_put (C := RX3) (T := TX3) (N := 7) (ci := 3) (v := .int z_2) (ws' := [cS a (v.1, v.2.1, v.2.2.1, v.2.2.2.1, v.2.2.2.2.1, v.2.2.2.2.2.1, z_2)]) S hK hW k_X3_die_in3 tyX3_ok nmX3 0 6 rfl rfl (by decide) k_X3_die_f30 rfl rfl rfl rfl rfl dX3_die_20 (fun H locs hW => ?_)
    refine lv_aload_n hx hb dX3_die_23 rfl (lv_at hl 0 rfl) ?_
    refine lv_iconst (v := 3) hx hb dX3_die_24 (by decide) ?_
    refine k_put (C := RX3) (T := TX3) (N := 7) (ci := 3) (v := .int 3) (ws' := [cS a (3, v.2.1, v.2.2.1, v.2.2.2.1, v.2.2.2.2.1, v.2.2.2.2.2.1, z_2)]) S hK hW k_X3_die_in3 tyX3_ok nmX3 0 0 rfl rfl (by decide) k_X3_die_f9 rfl rfl rfl rfl rfl dX3_die_25 (fun H locs hW => ?_)
    refine lv_aload_n hx hb dX3_die_28 rfl (lv_at hl 0 rfl) ?_
    refine lv_iconst (v := 0) hx hb dX3_die_29 (by decide) ?_
    refine k_put (C := RX3) (T := TX3) (N := 7) (ci := 3) (v := .int 0) (ws' := [cS a (3, v.2.1, v.2.2.1, v.2.2.2.1, 0, v.2.2.2.2.2.1, z_2)]) S hK hW k_X3_die_in3 tyX3_ok nmX3 0 4 rfl rfl (by decide) k_X3_die_f24 rfl rfl rfl rfl rfl dX3_die_30 (fun H locs hW => ?_)
    refine lv_iconst (v := 1) hx hb dX3_die_33 (by decide) ?_
    have hW9 := hW
    have hl9 := hl
    subst ez_2
    have eF : (F_X3_die v x) = (true, (3, v.2.1, v.2.2.1, v.2.2.2.1, 0, v.2.2.2.2.2.1, (if 0 < (x - v.2.2.1) then (x - v.2.2.1) else 0))) := by
      unfold F_X3_die
      rw [if_neg c_1]
    exact k_zret (wf := [cS a (3, v.2.1, v.2.2.1, v.2.2.2.1, 0, v.2.2.2.2.2.1, (if 0 < (x - v.2.2.1) then (x - v.2.2.1) else 0))]) S hr hlk hK hW9 [0] rfl rfl (congrArg (fun (z : Bool × S7) => [cS a z.2]) eF).symm (congrArg (fun (z : Bool × S7) => bI z.1) eF).symm dX3_die_34
  ·
    refine lv_iconst (v := 0) hx hb dX3_die_7 (by decide) ?_
    have eF : (F_X3_die v x) = (false, v) := by
      unfold F_X3_die
      rw [if_pos c_1]
    exact k_zret (wf := [cS a v]) S hr hlk hK hW [0] rfl rfl (congrArg (fun (z : Bool × S7) => [cS a z.2]) eF).symm (congrArg (fun (z : Bool × S7) => bI z.1) eF).symm dX3_die_8
def F_X3_lapse (v : S7) (m : Int32) : S7 :=
  (2, 0, 0, v.2.2.2.1, 0, (m + 1), v.2.2.2.2.2.2)
set_option maxRecDepth 100000 in
theorem k_X3_lapse_f9 : Cond.fieldLink RX3 9 "FlexiblePolicy$Standing" "state" "I" ∈ wsX3_lapse := by decide +kernel
set_option maxRecDepth 100000 in
theorem k_X3_lapse_in3 : ∀ w ∈ u_ws RX3 TX3 7, w ∈ wsX3_lapse := by decide +kernel
set_option maxRecDepth 100000 in
theorem k_X3_lapse_f24 : Cond.fieldLink RX3 24 "FlexiblePolicy$Standing" "grace" "I" ∈ wsX3_lapse := by decide +kernel
set_option maxRecDepth 100000 in
theorem k_X3_lapse_f15 : Cond.fieldLink RX3 15 "FlexiblePolicy$Standing" "account" "I" ∈ wsX3_lapse := by decide +kernel
set_option maxRecDepth 100000 in
theorem k_X3_lapse_f18 : Cond.fieldLink RX3 18 "FlexiblePolicy$Standing" "loan" "I" ∈ wsX3_lapse := by decide +kernel
set_option maxRecDepth 100000 in
theorem k_X3_lapse_f27 : Cond.fieldLink RX3 27 "FlexiblePolicy$Standing" "lapsedFrom" "I" ∈ wsX3_lapse := by decide +kernel
theorem nd_X3_lapse : yX3_lapse.cls = RX3 ∧ yX3_lapse.cls ≠ "java/lang/invoke/MethodHandle" ∧ yX3_lapse.cls ≠ "java/lang/invoke/VarHandle" ∧ (parseMethodDescriptor yX3_lapse.desc).map (fun d => d.parameters.length) = some 1 := by decide +kernel
abbrev rm_X3_lapse : Room := { frames := 0, cells := 0, slots := 0, locals := 0 }
set_option maxHeartbeats 4000000 in
set_option maxRecDepth 100000 in
theorem c_X3_lapse (l : Launch) (G : GG) (a : Nat) (v : S7) (m : Int32) : CV l G yX3_lapse wsX3_lapse rm_X3_lapse [.ref a, .int m] [cS a v] [cS a (F_X3_lapse v m)] := by
  refine CV_of (own := RX3) (by decide +kernel) rfl rfl (Nat.le_of_ble_eq_true rfl) ?_
  intro pP eE sS mM args below meth cC A S hK hr hlk hmn hW ls hl
  have hx := S.1
  have hb := S.2.1
  have hl : lv_has ls 2 [(0, .ref a), (1, .int m)] := hl
  have hW : Wd G A sS.heap [cS a v] sS.heap [] := hW
  refine lv_aload_n hx hb dX3_lapse_0 rfl (lv_at hl 0 rfl) ?_
  refine lv_iconst (v := 2) hx hb dX3_lapse_1 (by decide) ?_
  refine k_put (C := RX3) (T := TX3) (N := 7) (ci := 3) (v := .int 2) (ws' := [cS a (2, v.2.1, v.2.2.1, v.2.2.2.1, v.2.2.2.2.1, v.2.2.2.2.2.1, v.2.2.2.2.2.2)]) S hK hW k_X3_lapse_in3 tyX3_ok nmX3 0 0 rfl rfl (by decide) k_X3_lapse_f9 rfl rfl rfl rfl rfl dX3_lapse_2 (fun H locs hW => ?_)
  refine lv_aload_n hx hb dX3_lapse_5 rfl (lv_at hl 0 rfl) ?_
  refine lv_iconst (v := 0) hx hb dX3_lapse_6 (by decide) ?_
  refine k_put (C := RX3) (T := TX3) (N := 7) (ci := 3) (v := .int 0) (ws' := [cS a (2, v.2.1, v.2.2.1, v.2.2.2.1, 0, v.2.2.2.2.2.1, v.2.2.2.2.2.2)]) S hK hW k_X3_lapse_in3 tyX3_ok nmX3 0 4 rfl rfl (by decide) k_X3_lapse_f24 rfl rfl rfl rfl rfl dX3_lapse_7 (fun H locs hW => ?_)
  refine lv_aload_n hx hb dX3_lapse_10 rfl (lv_at hl 0 rfl) ?_
  refine lv_iconst (v := 0) hx hb dX3_lapse_11 (by decide) ?_
  refine k_put (C := RX3) (T := TX3) (N := 7) (ci := 3) (v := .int 0) (ws' := [cS a (2, 0, v.2.2.1, v.2.2.2.1, 0, v.2.2.2.2.2.1, v.2.2.2.2.2.2)]) S hK hW k_X3_lapse_in3 tyX3_ok nmX3 0 1 rfl rfl (by decide) k_X3_lapse_f15 rfl rfl rfl rfl rfl dX3_lapse_12 (fun H locs hW => ?_)
  refine lv_aload_n hx hb dX3_lapse_15 rfl (lv_at hl 0 rfl) ?_
  refine lv_iconst (v := 0) hx hb dX3_lapse_16 (by decide) ?_
  refine k_put (C := RX3) (T := TX3) (N := 7) (ci := 3) (v := .int 0) (ws' := [cS a (2, 0, 0, v.2.2.2.1, 0, v.2.2.2.2.2.1, v.2.2.2.2.2.2)]) S hK hW k_X3_lapse_in3 tyX3_ok nmX3 0 2 rfl rfl (by decide) k_X3_lapse_f18 rfl rfl rfl rfl rfl dX3_lapse_17 (fun H locs hW => ?_)
  refine lv_aload_n hx hb dX3_lapse_20 rfl (lv_at hl 0 rfl) ?_
  refine lv_iload_n hx hb dX3_lapse_21 rfl (lv_at hl 1 rfl) ?_
  refine lv_iconst (v := 1) hx hb dX3_lapse_22 (by decide) ?_
  refine lv_iadd hx hb dX3_lapse_23 ?_
  refine lv_topi (fun z_1 ez_1 => ?_)
  refine k_put (C := RX3) (T := TX3) (N := 7) (ci := 3) (v := .int z_1) (ws' := [cS a (2, 0, 0, v.2.2.2.1, 0, z_1, v.2.2.2.2.2.2)]) S hK hW k_X3_lapse_in3 tyX3_ok nmX3 0 5 rfl rfl (by decide) k_X3_lapse_f27 rfl rfl rfl rfl rfl dX3_lapse_24 (fun H locs hW => ?_)
  have hW9 := hW
  have hl9 := hl
  subst ez_1
  have eF : (F_X3_lapse v m) = (2, 0, 0, v.2.2.2.1, 0, (m + 1), v.2.2.2.2.2.2) := by
    rfl
  exact k_vret (wf := [cS a (2, 0, 0, v.2.2.2.1, 0, (m + 1), v.2.2.2.2.2.2)]) S hr hlk hK hW9 [0] rfl rfl (congrArg (fun (z : S7) => [cS a z]) eF).symm dX3_lapse_27
def F_X3_settle (v : S7) (x : Int32) (m : Int32) : S7 :=
  if (F_X3_freePart v) < (x + v.2.2.2.1) then (if (v.2.2.2.2.1 + 1) = 3 then (F_X3_lapse (1, v.2.1, v.2.2.1, (v.2.2.2.1 + x), (v.2.2.2.2.1 + 1), v.2.2.2.2.2.1, v.2.2.2.2.2.2) m)
    else (1, v.2.1, v.2.2.1, (v.2.2.2.1 + x), (v.2.2.2.2.1 + 1), v.2.2.2.2.2.1, v.2.2.2.2.2.2))
  else (F_X3_putInForce (v.1, (v.2.1 - (x + v.2.2.2.1)), v.2.2.1, 0, v.2.2.2.2.1, v.2.2.2.2.2.1, v.2.2.2.2.2.2))
set_option maxRecDepth 100000 in
theorem k_X3_settle_f21 : Cond.fieldLink RX3 21 "FlexiblePolicy$Standing" "arrears" "I" ∈ wsX3_settle := by decide +kernel
set_option maxRecDepth 100000 in
theorem k_X3_settle_in3 : ∀ w ∈ u_ws RX3 TX3 7, w ∈ wsX3_settle := by decide +kernel
set_option maxRecDepth 100000 in
theorem k_X3_settle_f9 : Cond.fieldLink RX3 9 "FlexiblePolicy$Standing" "state" "I" ∈ wsX3_settle := by decide +kernel
set_option maxRecDepth 100000 in
theorem k_X3_settle_f24 : Cond.fieldLink RX3 24 "FlexiblePolicy$Standing" "grace" "I" ∈ wsX3_settle := by decide +kernel
set_option maxRecDepth 100000 in
theorem k_X3_settle_f15 : Cond.fieldLink RX3 15 "FlexiblePolicy$Standing" "account" "I" ∈ wsX3_settle := by decide +kernel
theorem nd_X3_settle : yX3_settle.cls = RX3 ∧ yX3_settle.cls ≠ "java/lang/invoke/MethodHandle" ∧ yX3_settle.cls ≠ "java/lang/invoke/VarHandle" ∧ (parseMethodDescriptor yX3_settle.desc).map (fun d => d.parameters.length) = some 2 := by decide +kernel
abbrev rm_X3_settle : Room := { frames := 2, cells := 0, slots := 0, locals := 43 }
set_option maxHeartbeats 4000000 in
set_option maxRecDepth 100000 in
theorem c_X3_settle (l : Launch) (G : GG) (a : Nat) (v : S7) (x : Int32) (m : Int32) : CV l G yX3_settle wsX3_settle rm_X3_settle [.ref a, .int x, .int m] [cS a v] [cS a (F_X3_settle v x m)] := by
  refine CV_of (own := RX3) (by decide +kernel) rfl rfl (Nat.le_of_ble_eq_true rfl) ?_
  intro pP eE sS mM args below meth cC A S hK hr hlk hmn hW ls hl
  have hx := S.1
  have hb := S.2.1
  have hl : lv_has ls 3 [(0, .ref a), (1, .int x), (2, .int m)] := hl
  have hW : Wd G A sS.heap [cS a v] sS.heap [] := hW
  refine lv_aload_n hx hb dX3_settle_0 rfl (lv_at hl 0 rfl) ?_
  refine k_callVi (C := RX3) (As := []) (rest := []) (wr := []) (c_X3_freePart l G a v) S hK hW gX3_settle_X3_freePart rfl ⟨rfl, rfl⟩ nd_X3_freePart ⟨rfl, rfl⟩ (qb := 0) (ci := 3) rfl rfl [0] [] rfl rfl rfl rfl (by decide) rfl hl.1 rfl dX3_settle_1 ⟨Nat.zero_le _, Nat.zero_le _⟩ (fun H locs hW => ?_)
  have hW : Wd G A sS.heap [cS a v] H locs := hW
  refine lv_iload_n hx hb dX3_settle_4 rfl (lv_at hl 1 rfl) ?_
  refine lv_aload_n hx hb dX3_settle_5 rfl (lv_at hl 0 rfl) ?_
  refine k_get (C := RX3) (T := TX3) (N := 7) (ci := 3) (v := .int v.2.2.2.1) S hK hW k_X3_settle_in3 0 3 rfl rfl (by decide) k_X3_settle_f21 rfl dX3_settle_6 ?_
  refine lv_iadd hx hb dX3_settle_9 ?_
  refine lv_icmp_lt (tgt := 38) hx hb dX3_settle_10 (by decide) (fun c_1 => ?_) (fun c_1 => ?_)
  ·
    refine lv_aload_n hx hb dX3_settle_38 rfl (lv_at hl 0 rfl) ?_
    refine lv_dup hx hb dX3_settle_39 rfl ?_
    refine k_get (C := RX3) (T := TX3) (N := 7) (ci := 3) (v := .int v.2.2.2.1) S hK hW k_X3_settle_in3 0 3 rfl rfl (by decide) k_X3_settle_f21 rfl dX3_settle_40 ?_
    refine lv_iload_n hx hb dX3_settle_43 rfl (lv_at hl 1 rfl) ?_
    refine lv_iadd hx hb dX3_settle_44 ?_
    refine lv_topi (fun z_2 ez_2 => ?_)
    refine k_put (C := RX3) (T := TX3) (N := 7) (ci := 3) (v := .int z_2) (ws' := [cS a (v.1, v.2.1, v.2.2.1, z_2, v.2.2.2.2.1, v.2.2.2.2.2.1, v.2.2.2.2.2.2)]) S hK hW k_X3_settle_in3 tyX3_ok nmX3 0 3 rfl rfl (by decide) k_X3_settle_f21 rfl rfl rfl rfl rfl dX3_settle_45 (fun H locs hW => ?_)
    refine lv_aload_n hx hb dX3_settle_48 rfl (lv_at hl 0 rfl) ?_
    refine lv_iconst (v := 1) hx hb dX3_settle_49 (by decide) ?_
    refine k_put (C := RX3) (T := TX3) (N := 7) (ci := 3) (v := .int 1) (ws' := [cS a (1, v.2.1, v.2.2.1, z_2, v.2.2.2.2.1, v.2.2.2.2.2.1, v.2.2.2.2.2.2)]) S hK hW k_X3_settle_in3 tyX3_ok nmX3 0 0 rfl rfl (by decide) k_X3_settle_f9 rfl rfl rfl rfl rfl dX3_settle_50 (fun H locs hW => ?_)
    refine lv_aload_n hx hb dX3_settle_53 rfl (lv_at hl 0 rfl) ?_
    refine lv_dup hx hb dX3_settle_54 rfl ?_
    refine k_get (C := RX3) (T := TX3) (N := 7) (ci := 3) (v := .int v.2.2.2.2.1) S hK hW k_X3_settle_in3 0 4 rfl rfl (by decide) k_X3_settle_f24 rfl dX3_settle_55 ?_
    refine lv_iconst (v := 1) hx hb dX3_settle_58 (by decide) ?_
    refine lv_iadd hx hb dX3_settle_59 ?_
    refine lv_topi (fun z_3 ez_3 => ?_)
    refine k_put (C := RX3) (T := TX3) (N := 7) (ci := 3) (v := .int z_3) (ws' := [cS a (1, v.2.1, v.2.2.1, z_2, z_3, v.2.2.2.2.2.1, v.2.2.2.2.2.2)]) S hK hW k_X3_settle_in3 tyX3_ok nmX3 0 4 rfl rfl (by decide) k_X3_settle_f24 rfl rfl rfl rfl rfl dX3_settle_60 (fun H locs hW => ?_)
    refine lv_aload_n hx hb dX3_settle_63 rfl (lv_at hl 0 rfl) ?_
    refine k_get (C := RX3) (T := TX3) (N := 7) (ci := 3) (v := .int z_3) S hK hW k_X3_settle_in3 0 4 rfl rfl (by decide) k_X3_settle_f24 rfl dX3_settle_64 ?_
    refine lv_iconst (v := 3) hx hb dX3_settle_67 (by decide) ?_
    refine lv_icmp_ne (tgt := 76) hx hb dX3_settle_68 (by decide) (fun c_4 => ?_) (fun c_4 => ?_)
    ·
      have hW9 := hW
      have hl9 := hl
      subst ez_2
      subst ez_3
      have eF : (F_X3_settle v x m) = (1, v.2.1, v.2.2.1, (v.2.2.2.1 + x), (v.2.2.2.2.1 + 1), v.2.2.2.2.2.1, v.2.2.2.2.2.2) := by
        unfold F_X3_settle
        rw [if_pos c_1, if_neg c_4]
      exact k_vret (wf := [cS a (1, v.2.1, v.2.2.1, (v.2.2.2.1 + x), (v.2.2.2.2.1 + 1), v.2.2.2.2.2.1, v.2.2.2.2.2.2)]) S hr hlk hK hW9 [0] rfl rfl (congrArg (fun (z : S7) => [cS a z]) eF).symm dX3_settle_76
    ·
      refine lv_aload_n hx hb dX3_settle_71 rfl (lv_at hl 0 rfl) ?_
      refine lv_iload_n hx hb dX3_settle_72 rfl (lv_at hl 2 rfl) ?_
      refine k_callVv (C := RX3) (As := [.int m]) (rest := []) (wr := []) (c_X3_lapse l G a (1, v.2.1, v.2.2.1, z_2, z_3, v.2.2.2.2.2.1, v.2.2.2.2.2.2) m) S hK hW gX3_settle_X3_lapse rfl ⟨rfl, rfl⟩ nd_X3_lapse ⟨rfl, rfl⟩ (qb := 0) (ci := 3) rfl rfl [0] [] rfl rfl rfl rfl (by decide) rfl hl.1 rfl dX3_settle_73 ⟨Nat.zero_le _, Nat.zero_le _⟩ (fun H locs hW => ?_)
      have hW : Wd G A sS.heap [cS a (F_X3_lapse (1, v.2.1, v.2.2.1, z_2, z_3, v.2.2.2.2.2.1, v.2.2.2.2.2.2) m)] H locs := hW
      have hW9 := hW
      have hl9 := hl
      subst ez_2
      subst ez_3
      have eF : (F_X3_settle v x m) = (F_X3_lapse (1, v.2.1, v.2.2.1, (v.2.2.2.1 + x), (v.2.2.2.2.1 + 1), v.2.2.2.2.2.1, v.2.2.2.2.2.2) m) := by
        unfold F_X3_settle
        rw [if_pos c_1, if_pos c_4]
      exact k_vret (wf := [cS a (F_X3_lapse (1, v.2.1, v.2.2.1, (v.2.2.2.1 + x), (v.2.2.2.2.1 + 1), v.2.2.2.2.2.1, v.2.2.2.2.2.2) m)]) S hr hlk hK hW9 [0] rfl rfl (congrArg (fun (z : S7) => [cS a z]) eF).symm dX3_settle_76
  ·
    refine lv_aload_n hx hb dX3_settle_13 rfl (lv_at hl 0 rfl) ?_
    refine lv_dup hx hb dX3_settle_14 rfl ?_
    refine k_get (C := RX3) (T := TX3) (N := 7) (ci := 3) (v := .int v.2.1) S hK hW k_X3_settle_in3 0 1 rfl rfl (by decide) k_X3_settle_f15 rfl dX3_settle_15 ?_
    refine lv_iload_n hx hb dX3_settle_18 rfl (lv_at hl 1 rfl) ?_
    refine lv_aload_n hx hb dX3_settle_19 rfl (lv_at hl 0 rfl) ?_
    refine k_get (C := RX3) (T := TX3) (N := 7) (ci := 3) (v := .int v.2.2.2.1) S hK hW k_X3_settle_in3 0 3 rfl rfl (by decide) k_X3_settle_f21 rfl dX3_settle_20 ?_
    refine lv_iadd hx hb dX3_settle_23 ?_
    refine lv_isub hx hb dX3_settle_24 ?_
    refine lv_topi (fun z_5 ez_5 => ?_)
    refine k_put (C := RX3) (T := TX3) (N := 7) (ci := 3) (v := .int z_5) (ws' := [cS a (v.1, z_5, v.2.2.1, v.2.2.2.1, v.2.2.2.2.1, v.2.2.2.2.2.1, v.2.2.2.2.2.2)]) S hK hW k_X3_settle_in3 tyX3_ok nmX3 0 1 rfl rfl (by decide) k_X3_settle_f15 rfl rfl rfl rfl rfl dX3_settle_25 (fun H locs hW => ?_)
    refine lv_aload_n hx hb dX3_settle_28 rfl (lv_at hl 0 rfl) ?_
    refine lv_iconst (v := 0) hx hb dX3_settle_29 (by decide) ?_
    refine k_put (C := RX3) (T := TX3) (N := 7) (ci := 3) (v := .int 0) (ws' := [cS a (v.1, z_5, v.2.2.1, 0, v.2.2.2.2.1, v.2.2.2.2.2.1, v.2.2.2.2.2.2)]) S hK hW k_X3_settle_in3 tyX3_ok nmX3 0 3 rfl rfl (by decide) k_X3_settle_f21 rfl rfl rfl rfl rfl dX3_settle_30 (fun H locs hW => ?_)
    refine lv_aload_n hx hb dX3_settle_33 rfl (lv_at hl 0 rfl) ?_
    refine k_callVv (C := RX3) (As := []) (rest := []) (wr := []) (c_X3_putInForce l G a (v.1, z_5, v.2.2.1, 0, v.2.2.2.2.1, v.2.2.2.2.2.1, v.2.2.2.2.2.2)) S hK hW gX3_settle_X3_putInForce rfl ⟨rfl, rfl⟩ nd_X3_putInForce ⟨rfl, rfl⟩ (qb := 0) (ci := 3) rfl rfl [0] [] rfl rfl rfl rfl (by decide) rfl hl.1 rfl dX3_settle_34 ⟨Nat.zero_le _, Nat.zero_le _⟩ (fun H locs hW => ?_)
    have hW : Wd G A sS.heap [cS a (F_X3_putInForce (v.1, z_5, v.2.2.1, 0, v.2.2.2.2.1, v.2.2.2.2.2.1, v.2.2.2.2.2.2))] H locs := hW
    have hW9 := hW
    have hl9 := hl
    subst ez_5
    have eF : (F_X3_settle v x m) = (F_X3_putInForce (v.1, (v.2.1 - (x + v.2.2.2.1)), v.2.2.1, 0, v.2.2.2.2.1, v.2.2.2.2.2.1, v.2.2.2.2.2.2)) := by
      unfold F_X3_settle
      rw [if_neg c_1]
    exact k_vret (wf := [cS a (F_X3_putInForce (v.1, (v.2.1 - (x + v.2.2.2.1)), v.2.2.1, 0, v.2.2.2.2.1, v.2.2.2.2.2.1, v.2.2.2.2.2.2))]) S hr hlk hK hW9 [0] rfl rfl (congrArg (fun (z : S7) => [cS a z]) eF).symm dX3_settle_37
def F_X3_addInterest (v : S7) : S7 :=
  (v.1, (v.2.1 + ((((2 * (if v.2.2.1 < v.2.1 then v.2.2.1 else v.2.1).toInt64) + (3 * (if 1000000 < (v.2.1.toInt64 - (if v.2.2.1 < v.2.1 then v.2.2.1 else v.2.1).toInt64) then 1000000 else (v.2.1.toInt64 - (if v.2.2.1 < v.2.1 then v.2.2.1 else v.2.1).toInt64)))) + (4 * ((v.2.1.toInt64 - (if v.2.2.1 < v.2.1 then v.2.2.1 else v.2.1).toInt64) - (if 1000000 < (v.2.1.toInt64 - (if v.2.2.1 < v.2.1 then v.2.2.1 else v.2.1).toInt64) then 1000000 else (v.2.1.toInt64 - (if v.2.2.1 < v.2.1 then v.2.2.1 else v.2.1).toInt64))))) / 1200).toInt32), (v.2.2.1 + ((5 * v.2.2.1.toInt64) / 1200).toInt32), v.2.2.2.1, v.2.2.2.2.1, v.2.2.2.2.2.1, v.2.2.2.2.2.2)
set_option maxRecDepth 100000 in
theorem k_X3_addInterest_f15 : Cond.fieldLink RX3 15 "FlexiblePolicy$Standing" "account" "I" ∈ wsX3_addInterest := by decide +kernel
set_option maxRecDepth 100000 in
theorem k_X3_addInterest_in3 : ∀ w ∈ u_ws RX3 TX3 7, w ∈ wsX3_addInterest := by decide +kernel
set_option maxRecDepth 100000 in
theorem k_X3_addInterest_f18 : Cond.fieldLink RX3 18 "FlexiblePolicy$Standing" "loan" "I" ∈ wsX3_addInterest := by decide +kernel
set_option maxRecDepth 100000 in
theorem k_X3_addInterest_m43 : Cond.methodLink RX3 43 Lib.Math.min.name ∈ wsX3_addInterest := by decide +kernel
set_option maxRecDepth 100000 in
theorem k_X3_addInterest_ms43 : Cond.static Lib.Math.min.name ∈ wsX3_addInterest := by decide +kernel
set_option maxRecDepth 100000 in
theorem k_X3_addInterest_mi : Cond.initialized "java/lang/Math" ∈ wsX3_addInterest := by decide +kernel
set_option maxRecDepth 100000 in
theorem k_X3_addInterest_mc43 : Cond.code Lib.Math.min.name Lib.Math.min.code 2 (some .int) ∈ wsX3_addInterest := by decide +kernel
set_option maxRecDepth 100000 in
theorem k_X3_addInterest_c57 : Cond.constantLong RX3 57 (1000000) ∈ wsX3_addInterest := by decide +kernel
set_option maxRecDepth 100000 in
theorem k_X3_addInterest_m59 : Cond.methodLink RX3 59 Lib.MathLoose.min_long.x ∈ wsX3_addInterest := by decide +kernel
set_option maxRecDepth 100000 in
theorem k_X3_addInterest_ms59 : Cond.static Lib.MathLoose.min_long.x ∈ wsX3_addInterest := by decide +kernel
set_option maxRecDepth 100000 in
theorem k_X3_addInterest_mc59 : Cond.code Lib.MathLoose.min_long.x Lib.MathLoose.min_long.code 4 (some .long) ∈ wsX3_addInterest := by decide +kernel
set_option maxRecDepth 100000 in
theorem k_X3_addInterest_c62 : Cond.constantLong RX3 62 (2) ∈ wsX3_addInterest := by decide +kernel
set_option maxRecDepth 100000 in
theorem k_X3_addInterest_c64 : Cond.constantLong RX3 64 (3) ∈ wsX3_addInterest := by decide +kernel
set_option maxRecDepth 100000 in
theorem k_X3_addInterest_c66 : Cond.constantLong RX3 66 (4) ∈ wsX3_addInterest := by decide +kernel
set_option maxRecDepth 100000 in
theorem k_X3_addInterest_c68 : Cond.constantLong RX3 68 (1200) ∈ wsX3_addInterest := by decide +kernel
set_option maxRecDepth 100000 in
theorem k_X3_addInterest_c70 : Cond.constantLong RX3 70 (5) ∈ wsX3_addInterest := by decide +kernel
theorem nd_X3_addInterest : yX3_addInterest.cls = RX3 ∧ yX3_addInterest.cls ≠ "java/lang/invoke/MethodHandle" ∧ yX3_addInterest.cls ≠ "java/lang/invoke/VarHandle" ∧ (parseMethodDescriptor yX3_addInterest.desc).map (fun d => d.parameters.length) = some 0 := by decide +kernel
abbrev rm_X3_addInterest : Room := { frames := 1, cells := 0, slots := 0, locals := 23 }
set_option maxHeartbeats 4000000 in
set_option maxRecDepth 100000 in
theorem c_X3_addInterest (l : Launch) (G : GG) (a : Nat) (v : S7) : CV l G yX3_addInterest wsX3_addInterest rm_X3_addInterest [.ref a] [cS a v] [cS a (F_X3_addInterest v)] := by
  refine CV_of (own := RX3) (by decide +kernel) rfl rfl (Nat.le_of_ble_eq_true rfl) ?_
  intro pP eE sS mM args below meth cC A S hK hr hlk hmn hW ls hl
  have hx := S.1
  have hb := S.2.1
  have hl : lv_has ls 9 [(0, .ref a)] := hl
  have hW : Wd G A sS.heap [cS a v] sS.heap [] := hW
  refine lv_aload_n hx hb dX3_addInterest_0 rfl (lv_at hl 0 rfl) ?_
  refine k_get (C := RX3) (T := TX3) (N := 7) (ci := 3) (v := .int v.2.1) S hK hW k_X3_addInterest_in3 0 1 rfl rfl (by decide) k_X3_addInterest_f15 rfl dX3_addInterest_1 ?_
  refine lv_aload_n hx hb dX3_addInterest_4 rfl (lv_at hl 0 rfl) ?_
  refine k_get (C := RX3) (T := TX3) (N := 7) (ci := 3) (v := .int v.2.2.1) S hK hW k_X3_addInterest_in3 0 2 rfl rfl (by decide) k_X3_addInterest_f18 rfl dX3_addInterest_5 ?_
  refine k_min S k_X3_addInterest_m43 k_X3_addInterest_ms43 k_X3_addInterest_mi k_X3_addInterest_mc43 hl.1 rfl rfl ⟨Nat.zero_le _, Nat.zero_le _⟩ dX3_addInterest_8 ?_
  refine lv_i2l hx hb dX3_addInterest_11 rfl ?_
  refine lv_lstore_n (lv' := [(1, .long ((if v.2.2.1 < v.2.1 then v.2.2.1 else v.2.1).toInt64)), (0, .ref a)]) hx hb dX3_addInterest_12 rfl hl (by decide) rfl (fun ls hl => ?_)
  refine lv_aload_n hx hb dX3_addInterest_13 rfl (lv_at hl 1 rfl) ?_
  refine k_get (C := RX3) (T := TX3) (N := 7) (ci := 3) (v := .int v.2.1) S hK hW k_X3_addInterest_in3 0 1 rfl rfl (by decide) k_X3_addInterest_f15 rfl dX3_addInterest_14 ?_
  refine lv_i2l hx hb dX3_addInterest_17 rfl ?_
  refine lv_lload_n hx hb dX3_addInterest_18 rfl (lv_at hl 0 rfl) ?_
  refine lv_lsub hx hb dX3_addInterest_19 ?_
  refine lv_lstore_n (lv' := [(3, .long (v.2.1.toInt64 - (if v.2.2.1 < v.2.1 then v.2.2.1 else v.2.1).toInt64)), (1, .long ((if v.2.2.1 < v.2.1 then v.2.2.1 else v.2.1).toInt64)), (0, .ref a)]) hx hb dX3_addInterest_20 rfl hl (by decide) rfl (fun ls hl => ?_)
  refine lv_lload_n hx hb dX3_addInterest_21 rfl (lv_at hl 0 rfl) ?_
  refine k_ldc2 S k_X3_addInterest_c57 dX3_addInterest_22 ?_
  refine k_minl S k_X3_addInterest_m59 k_X3_addInterest_ms59 k_X3_addInterest_mi k_X3_addInterest_mc59 hl.1 rfl rfl ⟨Nat.zero_le _, Nat.zero_le _⟩ dX3_addInterest_25 ?_
  refine lv_lstore (lv' := [(5, .long (if 1000000 < (v.2.1.toInt64 - (if v.2.2.1 < v.2.1 then v.2.2.1 else v.2.1).toInt64) then 1000000 else (v.2.1.toInt64 - (if v.2.2.1 < v.2.1 then v.2.2.1 else v.2.1).toInt64))), (3, .long (v.2.1.toInt64 - (if v.2.2.1 < v.2.1 then v.2.2.1 else v.2.1).toInt64)), (1, .long ((if v.2.2.1 < v.2.1 then v.2.2.1 else v.2.1).toInt64)), (0, .ref a)]) hx hb dX3_addInterest_28 hl (by decide) rfl (fun ls hl => ?_)
  refine lv_lload_n hx hb dX3_addInterest_30 rfl (lv_at hl 1 rfl) ?_
  refine lv_lload hx hb dX3_addInterest_31 (lv_at hl 0 rfl) ?_
  refine lv_lsub hx hb dX3_addInterest_33 ?_
  refine lv_lstore (lv' := [(7, .long ((v.2.1.toInt64 - (if v.2.2.1 < v.2.1 then v.2.2.1 else v.2.1).toInt64) - (if 1000000 < (v.2.1.toInt64 - (if v.2.2.1 < v.2.1 then v.2.2.1 else v.2.1).toInt64) then 1000000 else (v.2.1.toInt64 - (if v.2.2.1 < v.2.1 then v.2.2.1 else v.2.1).toInt64)))), (5, .long (if 1000000 < (v.2.1.toInt64 - (if v.2.2.1 < v.2.1 then v.2.2.1 else v.2.1).toInt64) then 1000000 else (v.2.1.toInt64 - (if v.2.2.1 < v.2.1 then v.2.2.1 else v.2.1).toInt64))), (3, .long (v.2.1.toInt64 - (if v.2.2.1 < v.2.1 then v.2.2.1 else v.2.1).toInt64)), (1, .long ((if v.2.2.1 < v.2.1 then v.2.2.1 else v.2.1).toInt64)), (0, .ref a)]) hx hb dX3_addInterest_34 hl (by decide) rfl (fun ls hl => ?_)
  refine lv_aload_n hx hb dX3_addInterest_36 rfl (lv_at hl 4 rfl) ?_
  refine lv_dup hx hb dX3_addInterest_37 rfl ?_
  refine k_get (C := RX3) (T := TX3) (N := 7) (ci := 3) (v := .int v.2.1) S hK hW k_X3_addInterest_in3 0 1 rfl rfl (by decide) k_X3_addInterest_f15 rfl dX3_addInterest_38 ?_
  refine k_ldc2 S k_X3_addInterest_c62 dX3_addInterest_41 ?_
  refine lv_lload_n hx hb dX3_addInterest_44 rfl (lv_at hl 3 rfl) ?_
  refine lv_lmul hx hb dX3_addInterest_45 ?_
  refine k_ldc2 S k_X3_addInterest_c64 dX3_addInterest_46 ?_
  refine lv_lload hx hb dX3_addInterest_49 (lv_at hl 1 rfl) ?_
  refine lv_lmul hx hb dX3_addInterest_51 ?_
  refine lv_ladd hx hb dX3_addInterest_52 ?_
  refine k_ldc2 S k_X3_addInterest_c66 dX3_addInterest_53 ?_
  refine lv_lload hx hb dX3_addInterest_56 (lv_at hl 0 rfl) ?_
  refine lv_lmul hx hb dX3_addInterest_58 ?_
  refine lv_ladd hx hb dX3_addInterest_59 ?_
  refine k_ldc2 S k_X3_addInterest_c68 dX3_addInterest_60 ?_
  refine lv_ldiv hx hb dX3_addInterest_63 (by decide) ?_
  refine lv_l2i hx hb dX3_addInterest_64 rfl ?_
  refine lv_iadd hx hb dX3_addInterest_65 ?_
  refine lv_topi (fun z_1 ez_1 => ?_)
  refine k_put (C := RX3) (T := TX3) (N := 7) (ci := 3) (v := .int z_1) (ws' := [cS a (v.1, z_1, v.2.2.1, v.2.2.2.1, v.2.2.2.2.1, v.2.2.2.2.2.1, v.2.2.2.2.2.2)]) S hK hW k_X3_addInterest_in3 tyX3_ok nmX3 0 1 rfl rfl (by decide) k_X3_addInterest_f15 rfl rfl rfl rfl rfl dX3_addInterest_66 (fun H locs hW => ?_)
  refine lv_aload_n hx hb dX3_addInterest_69 rfl (lv_at hl 4 rfl) ?_
  refine lv_dup hx hb dX3_addInterest_70 rfl ?_
  refine k_get (C := RX3) (T := TX3) (N := 7) (ci := 3) (v := .int v.2.2.1) S hK hW k_X3_addInterest_in3 0 2 rfl rfl (by decide) k_X3_addInterest_f18 rfl dX3_addInterest_71 ?_
  refine k_ldc2 S k_X3_addInterest_c70 dX3_addInterest_74 ?_
  refine lv_aload_n hx hb dX3_addInterest_77 rfl (lv_at hl 4 rfl) ?_
  refine k_get (C := RX3) (T := TX3) (N := 7) (ci := 3) (v := .int v.2.2.1) S hK hW k_X3_addInterest_in3 0 2 rfl rfl (by decide) k_X3_addInterest_f18 rfl dX3_addInterest_78 ?_
  refine lv_i2l hx hb dX3_addInterest_81 rfl ?_
  refine lv_lmul hx hb dX3_addInterest_82 ?_
  refine k_ldc2 S k_X3_addInterest_c68 dX3_addInterest_83 ?_
  refine lv_ldiv hx hb dX3_addInterest_86 (by decide) ?_
  refine lv_l2i hx hb dX3_addInterest_87 rfl ?_
  refine lv_iadd hx hb dX3_addInterest_88 ?_
  refine lv_topi (fun z_2 ez_2 => ?_)
  refine k_put (C := RX3) (T := TX3) (N := 7) (ci := 3) (v := .int z_2) (ws' := [cS a (v.1, z_1, z_2, v.2.2.2.1, v.2.2.2.2.1, v.2.2.2.2.2.1, v.2.2.2.2.2.2)]) S hK hW k_X3_addInterest_in3 tyX3_ok nmX3 0 2 rfl rfl (by decide) k_X3_addInterest_f18 rfl rfl rfl rfl rfl dX3_addInterest_89 (fun H locs hW => ?_)
  have hW9 := hW
  have hl9 := hl
  subst ez_1
  subst ez_2
  have eF : (F_X3_addInterest v) = (v.1, (v.2.1 + ((((2 * (if v.2.2.1 < v.2.1 then v.2.2.1 else v.2.1).toInt64) + (3 * (if 1000000 < (v.2.1.toInt64 - (if v.2.2.1 < v.2.1 then v.2.2.1 else v.2.1).toInt64) then 1000000 else (v.2.1.toInt64 - (if v.2.2.1 < v.2.1 then v.2.2.1 else v.2.1).toInt64)))) + (4 * ((v.2.1.toInt64 - (if v.2.2.1 < v.2.1 then v.2.2.1 else v.2.1).toInt64) - (if 1000000 < (v.2.1.toInt64 - (if v.2.2.1 < v.2.1 then v.2.2.1 else v.2.1).toInt64) then 1000000 else (v.2.1.toInt64 - (if v.2.2.1 < v.2.1 then v.2.2.1 else v.2.1).toInt64))))) / 1200).toInt32), (v.2.2.1 + ((5 * v.2.2.1.toInt64) / 1200).toInt32), v.2.2.2.1, v.2.2.2.2.1, v.2.2.2.2.2.1, v.2.2.2.2.2.2) := by
    rfl
  exact k_vret (wf := [cS a (v.1, (v.2.1 + ((((2 * (if v.2.2.1 < v.2.1 then v.2.2.1 else v.2.1).toInt64) + (3 * (if 1000000 < (v.2.1.toInt64 - (if v.2.2.1 < v.2.1 then v.2.2.1 else v.2.1).toInt64) then 1000000 else (v.2.1.toInt64 - (if v.2.2.1 < v.2.1 then v.2.2.1 else v.2.1).toInt64)))) + (4 * ((v.2.1.toInt64 - (if v.2.2.1 < v.2.1 then v.2.2.1 else v.2.1).toInt64) - (if 1000000 < (v.2.1.toInt64 - (if v.2.2.1 < v.2.1 then v.2.2.1 else v.2.1).toInt64) then 1000000 else (v.2.1.toInt64 - (if v.2.2.1 < v.2.1 then v.2.2.1 else v.2.1).toInt64))))) / 1200).toInt32), (v.2.2.1 + ((5 * v.2.2.1.toInt64) / 1200).toInt32), v.2.2.2.1, v.2.2.2.2.1, v.2.2.2.2.2.1, v.2.2.2.2.2.2)]) S hr hlk hK hW9 [0] rfl rfl (congrArg (fun (z : S7) => [cS a z]) eF).symm dX3_addInterest_92
