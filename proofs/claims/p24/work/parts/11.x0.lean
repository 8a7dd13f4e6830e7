section X0
def F_X0_empty  : Int32 :=
  0
set_option maxRecDepth 100000 in
theorem k_X0_empty_f9 : Cond.fieldLink RX0 9 "FlexiblePolicy$ActBook" "count" "I" ∈ wsX0_empty := by decide +kernel
set_option maxRecDepth 100000 in
theorem k_X0_empty_in0 : ∀ w ∈ u_ws RX0 TX0 6, w ∈ wsX0_empty := by decide +kernel
theorem nd_X0_empty : yX0_empty.cls = RX0 ∧ yX0_empty.cls ≠ "java/lang/invoke/MethodHandle" ∧ yX0_empty.cls ≠ "java/lang/invoke/VarHandle" ∧ (parseMethodDescriptor yX0_empty.desc).map (fun d => d.parameters.length) = some 0 := by decide +kernel
abbrev rm_X0_empty : Room := { frames := 0, cells := 0, slots := 0, locals := 0 }
set_option maxHeartbeats 4000000 in
set_option maxRecDepth 100000 in
theorem c_X0_empty (l : Launch) (G : GG) (h : Nat → Nat) (n : Int32) : CV l G yX0_empty wsX0_empty rm_X0_empty [.ref (h 2)] [cB h n] [cB h F_X0_empty] := by
  refine CV_of (own := RX0) (by decide +kernel) rfl rfl (Nat.le_of_ble_eq_true rfl) ?_
  intro pP eE sS mM args below meth cC A S hK hr hlk hmn hW ls hl
  have hx := S.1
  have hb := S.2.1
  have hl : lv_has ls 1 [(0, .ref (h 2))] := hl
  have hW : Wd G A sS.heap [cB h n] sS.heap [] := hW
  refine lv_aload_n hx hb dX0_empty_0 rfl (lv_at hl 0 rfl) ?_
  refine lv_iconst (v := 0) hx hb dX0_empty_1 (by decide) ?_
  refine k_put (C := RX0) (T := TX0) (N := 6) (ci := 0) (v := .int 0) (ws' := [cB h 0]) S hK hW k_X0_empty_in0 tyX0_ok nmX0 0 0 rfl rfl (by decide) k_X0_empty_f9 rfl rfl rfl rfl rfl dX0_empty_2 (fun H locs hW => ?_)
  have eF : F_X0_empty = 0 := by
    rfl
  exact k_vret (wf := [cB h 0]) S hr hlk hK hW [0] rfl rfl (congrArg (fun (z : Int32) => [cB h z]) eF).symm dX0_empty_5
def F_X0_isFull (n : Int32) : Bool :=
  if n < 60 then false
  else true
set_option maxRecDepth 100000 in
theorem k_X0_isFull_f9 : Cond.fieldLink RX0 9 "FlexiblePolicy$ActBook" "count" "I" ∈ wsX0_isFull := by decide +kernel
set_option maxRecDepth 100000 in
theorem k_X0_isFull_in0 : ∀ w ∈ u_ws RX0 TX0 6, w ∈ wsX0_isFull := by decide +kernel
theorem nd_X0_isFull : yX0_isFull.cls = RX0 ∧ yX0_isFull.cls ≠ "java/lang/invoke/MethodHandle" ∧ yX0_isFull.cls ≠ "java/lang/invoke/VarHandle" ∧ (parseMethodDescriptor yX0_isFull.desc).map (fun d => d.parameters.length) = some 0 := by decide +kernel
abbrev rm_X0_isFull : Room := { frames := 0, cells := 0, slots := 0, locals := 0 }
set_option maxHeartbeats 4000000 in
set_option maxRecDepth 100000 in
theorem c_X0_isFull (l : Launch) (G : GG) (h : Nat → Nat) (n : Int32) : CI l G yX0_isFull wsX0_isFull rm_X0_isFull [.ref (h 2)] [cB h n] (bI (F_X0_isFull n)) [cB h n] := by
  refine CI_of (own := RX0) (by decide +kernel) rfl rfl (Nat.le_of_ble_eq_true rfl) ?_
  intro pP eE sS mM args below meth cC A S hK hr hlk hmn hW ls hl
  have hx := S.1
  have hb := S.2.1
  have hl : lv_has ls 1 [(0, .ref (h 2))] := hl
  have hW : Wd G A sS.heap [cB h n] sS.heap [] := hW
  refine lv_aload_n hx hb dX0_isFull_0 rfl (lv_at hl 0 rfl) ?_
  refine k_get (C := RX0) (T := TX0) (N := 6) (ci := 0) (v := .int n) S hK hW k_X0_isFull_in0 0 0 rfl rfl (by decide) k_X0_isFull_f9 rfl dX0_isFull_1 ?_
  refine lv_bipush (v := 60) hx hb dX0_isFull_4 (by decide) ?_
  refine lv_icmp_lt (tgt := 13) hx hb dX0_isFull_6 (by decide) (fun c_1 => ?_) (fun c_1 => ?_)
  ·
    refine lv_iconst (v := 0) hx hb dX0_isFull_13 (by decide) ?_
    have eF : (F_X0_isFull n) = false := by
      unfold F_X0_isFull
      rw [if_pos c_1]
    exact k_zret (wf := [cB h n]) S hr hlk hK hW [0] rfl rfl rfl (congrArg (fun (z : Bool) => bI z) eF).symm dX0_isFull_14
  ·
    refine lv_iconst (v := 1) hx hb dX0_isFull_9 (by decide) ?_
    refine lv_goto (tgt := 14) hx hb dX0_isFull_10 (by decide) ?_
    have eF : (F_X0_isFull n) = true := by
      unfold F_X0_isFull
      rw [if_neg c_1]
    exact k_zret (wf := [cB h n]) S hr hlk hK hW [0] rfl rfl rfl (congrArg (fun (z : Bool) => bI z) eF).symm dX0_isFull_14
def F_X0_has (n : Int32) (x : Int32) : Bool :=
  if x < 0 then false
  else (if n ≤ x then false
    else (if 60 ≤ x then false
      else true))
set_option maxRecDepth 100000 in
theorem k_X0_has_f9 : Cond.fieldLink RX0 9 "FlexiblePolicy$ActBook" "count" "I" ∈ wsX0_has := by decide +kernel
set_option maxRecDepth 100000 in
theorem k_X0_has_in0 : ∀ w ∈ u_ws RX0 TX0 6, w ∈ wsX0_has := by decide +kernel
theorem nd_X0_has : yX0_has.cls = RX0 ∧ yX0_has.cls ≠ "java/lang/invoke/MethodHandle" ∧ yX0_has.cls ≠ "java/lang/invoke/VarHandle" ∧ (parseMethodDescriptor yX0_has.desc).map (fun d => d.parameters.length) = some 1 := by decide +kernel
abbrev rm_X0_has : Room := { frames := 0, cells := 0, slots := 0, locals := 0 }
set_option maxHeartbeats 4000000 in
set_option maxRecDepth 100000 in
theorem c_X0_has (l : Launch) (G : GG) (h : Nat → Nat) (n : Int32) (x : Int32) : CI l G yX0_has wsX0_has rm_X0_has [.ref (h 2), .int x] [cB h n] (bI (F_X0_has n x)) [cB h n] := by
  refine CI_of (own := RX0) (by decide +kernel) rfl rfl (Nat.le_of_ble_eq_true rfl) ?_
  intro pP eE sS mM args below meth cC A S hK hr hlk hmn hW ls hl
  have hx := S.1
  have hb := S.2.1
  have hl : lv_has ls 2 [(0, .ref (h 2)), (1, .int x)] := hl
  have hW : Wd G A sS.heap [cB h n] sS.heap [] := hW
  refine lv_iload_n hx hb dX0_has_0 rfl (lv_at hl 1 rfl) ?_
  refine lv_if_lt (tgt := 22) hx hb dX0_has_1 (by decide) (fun c_1 => ?_) (fun c_1 => ?_)
  ·
    refine lv_iconst (v := 0) hx hb dX0_has_22 (by decide) ?_
    have eF : (F_X0_has n x) = false := by
      unfold F_X0_has
      rw [if_pos c_1]
    exact k_zret (wf := [cB h n]) S hr hlk hK hW [0] rfl rfl rfl (congrArg (fun (z : Bool) => bI z) eF).symm dX0_has_23
  ·
    refine lv_iload_n hx hb dX0_has_4 rfl (lv_at hl 1 rfl) ?_
    refine lv_aload_n hx hb dX0_has_5 rfl (lv_at hl 0 rfl) ?_
    refine k_get (C := RX0) (T := TX0) (N := 6) (ci := 0) (v := .int n) S hK hW k_X0_has_in0 0 0 rfl rfl (by decide) k_X0_has_f9 rfl dX0_has_6 ?_
    refine lv_icmp_ge (tgt := 22) hx hb dX0_has_9 (by decide) (fun c_2 => ?_) (fun c_2 => ?_)
    ·
      refine lv_iconst (v := 0) hx hb dX0_has_22 (by decide) ?_
      have eF : (F_X0_has n x) = false := by
        unfold F_X0_has
        rw [if_neg c_1, if_pos c_2]
      exact k_zret (wf := [cB h n]) S hr hlk hK hW [0] rfl rfl rfl (congrArg (fun (z : Bool) => bI z) eF).symm dX0_has_23
    ·
      refine lv_iload_n hx hb dX0_has_12 rfl (lv_at hl 1 rfl) ?_
      refine lv_bipush (v := 60) hx hb dX0_has_13 (by decide) ?_
      refine lv_icmp_ge (tgt := 22) hx hb dX0_has_15 (by decide) (fun c_3 => ?_) (fun c_3 => ?_)
      ·
        refine lv_iconst (v := 0) hx hb dX0_has_22 (by decide) ?_
        have eF : (F_X0_has n x) = false := by
          unfold F_X0_has
          rw [if_neg c_1, if_neg c_2, if_pos c_3]
        exact k_zret (wf := [cB h n]) S hr hlk hK hW [0] rfl rfl rfl (congrArg (fun (z : Bool) => bI z) eF).symm dX0_has_23
      ·
        refine lv_iconst (v := 1) hx hb dX0_has_18 (by decide) ?_
        refine lv_goto (tgt := 23) hx hb dX0_has_19 (by decide) ?_
        have eF : (F_X0_has n x) = true := by
          unfold F_X0_has
          rw [if_neg c_1, if_neg c_2, if_neg c_3]
        exact k_zret (wf := [cB h n]) S hr hlk hK hW [0] rfl rfl rfl (congrArg (fun (z : Bool) => bI z) eF).symm dX0_has_23
theorem in_60 {i : Int32} (h1 : ¬ i < 0) (h2 : ¬ 60 ≤ i) : vp_in i 60 := by
  rw [vp_in_iff]
  rw [Int32.lt_iff_toInt_lt] at h1
  rw [Int32.le_iff_toInt_le] at h2
  have e0 : (0 : Int32).toInt = 0 := by decide
  have e1 : (60 : Int32).toInt = 60 := by decide
  omega
theorem in_60' {i : Int32} (h1 : 0 ≤ i) (h2 : i < 60) : vp_in i 60 := by
  rw [vp_in_iff]
  rw [Int32.le_iff_toInt_le] at h1
  rw [Int32.lt_iff_toInt_lt] at h2
  have e0 : (0 : Int32).toInt = 0 := by decide
  have e1 : (60 : Int32).toInt = 60 := by decide
  omega
theorem in_121' {i : Int32} (h1 : 0 ≤ i) (h2 : i < 121) : vp_in i 121 := by
  rw [vp_in_iff]
  rw [Int32.le_iff_toInt_le] at h1
  rw [Int32.lt_iff_toInt_lt] at h2
  have e0 : (0 : Int32).toInt = 0 := by decide
  have e1 : (121 : Int32).toInt = 121 := by decide
  omega
theorem in_lt {i : Int32} (h1 : ¬ i < 0) (h2 : i < 60) : vp_in i 60 := in_60 h1 (fun h => by
  rw [Int32.lt_iff_toInt_lt] at h2
  rw [Int32.le_iff_toInt_le] at h
  omega)
theorem in_of {i : Int32} (h1 : ¬ i < 0) (h2 : ¬ 60 ≤ i) : vp_in i 60 := in_60 h1 h2
theorem i_nlt {x y : Int32} (h : ¬ x < y) : y ≤ x := by
  rw [Int32.lt_iff_toInt_lt] at h
  rw [Int32.le_iff_toInt_le]
  omega
theorem i_nle {x y : Int32} (h : ¬ x ≤ y) : y < x := by
  rw [Int32.le_iff_toInt_le] at h
  rw [Int32.lt_iff_toInt_lt]
  omega
theorem bI0 {b : Bool} : bI b = 0 ↔ b = false := by cases b <;> decide
theorem nbI0 {b : Bool} : ¬ bI b = 0 ↔ b = true := by cases b <;> decide
theorem has_in {n x : Int32} (h : ¬ bI (F_X0_has n x) = 0) : vp_in x 60 := by
  rw [nbI0] at h
  unfold F_X0_has at h
  split at h
  · cases h
  · rename_i h1
    split at h
    · cases h
    · split at h
      · cases h
      · rename_i h3
        exact in_60 h1 h3
def F_X0_write (n : Int32) (mo : (Nat → Int32)) (ki : (Nat → Int32)) (am : (Nat → Int32)) (sk : (Nat → Bool)) (m : Int32) (k : Int32) (x : Int32) : Int32 × Int32 × (Nat → Int32) × (Nat → Int32) × (Nat → Int32) × (Nat → Bool) :=
  if n < 0 then ((-1), n, mo, ki, am, sk)
  else (if n < 60 then (n, (n + 1), (upd mo n.toNatClampNeg m), (upd ki n.toNatClampNeg k), (upd am n.toNatClampNeg x), (updB sk n.toNatClampNeg false))
    else ((-1), n, mo, ki, am, sk))
set_option maxRecDepth 100000 in
theorem k_X0_write_f9 : Cond.fieldLink RX0 9 "FlexiblePolicy$ActBook" "count" "I" ∈ wsX0_write := by decide +kernel
set_option maxRecDepth 100000 in
theorem k_X0_write_in0 : ∀ w ∈ u_ws RX0 TX0 6, w ∈ wsX0_write := by decide +kernel
set_option maxRecDepth 100000 in
theorem k_X0_write_f15 : Cond.fieldLink RX0 15 "FlexiblePolicy$ActBook" "months" "[I" ∈ wsX0_write := by decide +kernel
set_option maxRecDepth 100000 in
theorem k_X0_write_f19 : Cond.fieldLink RX0 19 "FlexiblePolicy$ActBook" "kinds" "[I" ∈ wsX0_write := by decide +kernel
set_option maxRecDepth 100000 in
theorem k_X0_write_f22 : Cond.fieldLink RX0 22 "FlexiblePolicy$ActBook" "amounts" "[I" ∈ wsX0_write := by decide +kernel
set_option maxRecDepth 100000 in
theorem k_X0_write_f25 : Cond.fieldLink RX0 25 "FlexiblePolicy$ActBook" "struck" "[Z" ∈ wsX0_write := by decide +kernel
theorem nd_X0_write : yX0_write.cls = RX0 ∧ yX0_write.cls ≠ "java/lang/invoke/MethodHandle" ∧ yX0_write.cls ≠ "java/lang/invoke/VarHandle" ∧ (parseMethodDescriptor yX0_write.desc).map (fun d => d.parameters.length) = some 3 := by decide +kernel
abbrev rm_X0_write : Room := { frames := 0, cells := 0, slots := 0, locals := 0 }
set_option maxHeartbeats 4000000 in
set_option maxRecDepth 100000 in
theorem c_X0_write (l : Launch) (G : GG) (h : Nat → Nat) (n : Int32) (mo : (Nat → Int32)) (ki : (Nat → Int32)) (am : (Nat → Int32)) (sk : (Nat → Bool)) (m : Int32) (k : Int32) (x : Int32) : CI l G yX0_write wsX0_write rm_X0_write [.ref (h 2), .int m, .int k, .int x] [cB h n, aI G (h 6) 60 mo, aI G (h 7) 60 ki, aI G (h 8) 60 am, aZ G (h 9) 60 sk] ((F_X0_write n mo ki am sk m k x).1) [cB h ((F_X0_write n mo ki am sk m k x).2.1), aI G (h 6) 60 ((F_X0_write n mo ki am sk m k x).2.2.1), aI G (h 7) 60 ((F_X0_write n mo ki am sk m k x).2.2.2.1), aI G (h 8) 60 ((F_X0_write n mo ki am sk m k x).2.2.2.2.1), aZ G (h 9) 60 ((F_X0_write n mo ki am sk m k x).2.2.2.2.2)] := by
  refine CI_of (own := RX0) (by decide +kernel) rfl rfl (Nat.le_of_ble_eq_true rfl) ?_
  intro pP eE sS mM args below meth cC A S hK hr hlk hmn hW ls hl
  have hx := S.1
  have hb := S.2.1
  have hl : lv_has ls 5 [(0, .ref (h 2)), (1, .int m), (2, .int k), (3, .int x)] := hl
  have hW : Wd G A sS.heap [cB h n, aI G (h 6) 60 mo, aI G (h 7) 60 ki, aI G (h 8) 60 am, aZ G (h 9) 60 sk] sS.heap [] := hW
  refine lv_aload_n hx hb dX0_write_0 rfl (lv_at hl 0 rfl) ?_
  refine k_get (C := RX0) (T := TX0) (N := 6) (ci := 0) (v := .int n) S hK hW k_X0_write_in0 0 0 rfl rfl (by decide) k_X0_write_f9 rfl dX0_write_1 ?_
  refine lv_if_lt (tgt := 16) hx hb dX0_write_4 (by decide) (fun c_1 => ?_) (fun c_1 => ?_)
  ·
    refine lv_iconst (v := (-1)) hx hb dX0_write_16 (by decide) ?_
    have eF : (F_X0_write n mo ki am sk m k x) = ((-1), n, mo, ki, am, sk) := by
      unfold F_X0_write
      rw [if_pos c_1]
    exact k_iret (wf := [cB h n, aI G (h 6) 60 mo, aI G (h 7) 60 ki, aI G (h 8) 60 am, aZ G (h 9) 60 sk]) S hr hlk hK hW [0, 1, 2, 3, 4] rfl rfl (congrArg (fun (z : Int32 × Int32 × (Nat → Int32) × (Nat → Int32) × (Nat → Int32) × (Nat → Bool)) => [cB h z.2.1, aI G (h 6) 60 z.2.2.1, aI G (h 7) 60 z.2.2.2.1, aI G (h 8) 60 z.2.2.2.2.1, aZ G (h 9) 60 z.2.2.2.2.2]) eF).symm (congrArg (fun (z : Int32 × Int32 × (Nat → Int32) × (Nat → Int32) × (Nat → Int32) × (Nat → Bool)) => z.1) eF).symm dX0_write_17
  ·
    refine lv_aload_n hx hb dX0_write_7 rfl (lv_at hl 0 rfl) ?_
    refine k_get (C := RX0) (T := TX0) (N := 6) (ci := 0) (v := .int n) S hK hW k_X0_write_in0 0 0 rfl rfl (by decide) k_X0_write_f9 rfl dX0_write_8 ?_
    refine lv_bipush (v := 60) hx hb dX0_write_11 (by decide) ?_
    refine lv_icmp_lt (tgt := 18) hx hb dX0_write_13 (by decide) (fun c_2 => ?_) (fun c_2 => ?_)
    ·
      refine lv_aload_n hx hb dX0_write_18 rfl (lv_at hl 0 rfl) ?_
      refine k_get (C := RX0) (T := TX0) (N := 6) (ci := 0) (v := .int n) S hK hW k_X0_write_in0 0 0 rfl rfl (by decide) k_X0_write_f9 rfl dX0_write_19 ?_
      refine lv_istore (lv' := [(4, .int n), (0, .ref (h 2)), (1, .int m), (2, .int k), (3, .int x)]) hx hb dX0_write_22 hl (by decide) rfl (fun ls hl => ?_)
      refine lv_aload_n hx hb dX0_write_24 rfl (lv_at hl 1 rfl) ?_
      refine k_get (C := RX0) (T := TX0) (N := 6) (ci := 0) (v := .ref (h 6)) S hK hW k_X0_write_in0 0 1 rfl rfl (by decide) k_X0_write_f15 rfl dX0_write_25 ?_
      refine lv_iload hx hb dX0_write_28 (lv_at hl 0 rfl) ?_
      refine lv_iload_n hx hb dX0_write_30 rfl (lv_at hl 2 rfl) ?_
      refine k_iast (n := 60) (ws' := [cB h n, aI G (h 6) 60 (upd mo n.toNatClampNeg m), aI G (h 7) 60 ki, aI G (h 8) 60 am, aZ G (h 9) 60 sk]) S hK hW 1 rfl (i := n) (in_lt c_1 c_2) rfl dX0_write_31 (fun H locs hW => ?_)
      refine lv_aload_n hx hb dX0_write_32 rfl (lv_at hl 1 rfl) ?_
      refine k_get (C := RX0) (T := TX0) (N := 6) (ci := 0) (v := .ref (h 7)) S hK hW k_X0_write_in0 0 2 rfl rfl (by decide) k_X0_write_f19 rfl dX0_write_33 ?_
      refine lv_iload hx hb dX0_write_36 (lv_at hl 0 rfl) ?_
      refine lv_iload_n hx hb dX0_write_38 rfl (lv_at hl 3 rfl) ?_
      refine k_iast (n := 60) (ws' := [cB h n, aI G (h 6) 60 (upd mo n.toNatClampNeg m), aI G (h 7) 60 (upd ki n.toNatClampNeg k), aI G (h 8) 60 am, aZ G (h 9) 60 sk]) S hK hW 2 rfl (i := n) (in_lt c_1 c_2) rfl dX0_write_39 (fun H locs hW => ?_)
      refine lv_aload_n hx hb dX0_write_40 rfl (lv_at hl 1 rfl) ?_
      refine k_get (C := RX0) (T := TX0) (N := 6) (ci := 0) (v := .ref (h 8)) S hK hW k_X0_write_in0 0 3 rfl rfl (by decide) k_X0_write_f22 rfl dX0_write_41 ?_
      refine lv_iload hx hb dX0_write_44 (lv_at hl 0 rfl) ?_
      refine lv_iload_n hx hb dX0_write_46 rfl (lv_at hl 4 rfl) ?_
      refine k_iast (n := 60) (ws' := [cB h n, aI G (h 6) 60 (upd mo n.toNatClampNeg m), aI G (h 7) 60 (upd ki n.toNatClampNeg k), aI G (h 8) 60 (upd am n.toNatClampNeg x), aZ G (h 9) 60 sk]) S hK hW 3 rfl (i := n) (in_lt c_1 c_2) rfl dX0_write_47 (fun H locs hW => ?_)
      refine lv_aload_n hx hb dX0_write_48 rfl (lv_at hl 1 rfl) ?_
      refine k_get (C := RX0) (T := TX0) (N := 6) (ci := 0) (v := .ref (h 9)) S hK hW k_X0_write_in0 0 4 rfl rfl (by decide) k_X0_write_f25 rfl dX0_write_49 ?_
      refine lv_iload hx hb dX0_write_52 (lv_at hl 0 rfl) ?_
      refine lv_iconst (v := 0) hx hb dX0_write_54 (by decide) ?_
      refine k_zast (n := 60) (ws' := [cB h n, aI G (h 6) 60 (upd mo n.toNatClampNeg m), aI G (h 7) 60 (upd ki n.toNatClampNeg k), aI G (h 8) 60 (upd am n.toNatClampNeg x), aZ G (h 9) 60 (updB sk n.toNatClampNeg false)]) S hK hW 4 rfl (i := n) (b := false) rfl (in_lt c_1 c_2) rfl dX0_write_55 (fun H locs hW => ?_)
      refine lv_aload_n hx hb dX0_write_56 rfl (lv_at hl 1 rfl) ?_
      refine lv_dup hx hb dX0_write_57 rfl ?_
      refine k_get (C := RX0) (T := TX0) (N := 6) (ci := 0) (v := .int n) S hK hW k_X0_write_in0 0 0 rfl rfl (by decide) k_X0_write_f9 rfl dX0_write_58 ?_
      refine lv_iconst (v := 1) hx hb dX0_write_61 (by decide) ?_
      refine lv_iadd hx hb dX0_write_62 ?_
      refine lv_topi (fun z_3 ez_3 => ?_)
      refine k_put (C := RX0) (T := TX0) (N := 6) (ci := 0) (v := .int z_3) (ws' := [cB h z_3, aI G (h 6) 60 (upd mo n.toNatClampNeg m), aI G (h 7) 60 (upd ki n.toNatClampNeg k), aI G (h 8) 60 (upd am n.toNatClampNeg x), aZ G (h 9) 60 (updB sk n.toNatClampNeg false)]) S hK hW k_X0_write_in0 tyX0_ok nmX0 0 0 rfl rfl (by decide) k_X0_write_f9 rfl rfl rfl rfl rfl dX0_write_63 (fun H locs hW => ?_)
      refine lv_iload hx hb dX0_write_66 (lv_at hl 0 rfl) ?_
      have hW9 := hW
      have hl9 := hl
      subst ez_3
      have eF : (F_X0_write n mo ki am sk m k x) = (n, (n + 1), (upd mo n.toNatClampNeg m), (upd ki n.toNatClampNeg k), (upd am n.toNatClampNeg x), (updB sk n.toNatClampNeg false)) := by
        unfold F_X0_write
        rw [if_neg c_1, if_pos c_2]
      exact k_iret (wf := [cB h (n + 1), aI G (h 6) 60 (upd mo n.toNatClampNeg m), aI G (h 7) 60 (upd ki n.toNatClampNeg k), aI G (h 8) 60 (upd am n.toNatClampNeg x), aZ G (h 9) 60 (updB sk n.toNatClampNeg false)]) S hr hlk hK hW9 [0, 1, 2, 3, 4] rfl rfl (congrArg (fun (z : Int32 × Int32 × (Nat → Int32) × (Nat → Int32) × (Nat → Int32) × (Nat → Bool)) => [cB h z.2.1, aI G (h 6) 60 z.2.2.1, aI G (h 7) 60 z.2.2.2.1, aI G (h 8) 60 z.2.2.2.2.1, aZ G (h 9) 60 z.2.2.2.2.2]) eF).symm (congrArg (fun (z : Int32 × Int32 × (Nat → Int32) × (Nat → Int32) × (Nat → Int32) × (Nat → Bool)) => z.1) eF).symm dX0_write_68
    ·
      refine lv_iconst (v := (-1)) hx hb dX0_write_16 (by decide) ?_
      have eF : (F_X0_write n mo ki am sk m k x) = ((-1), n, mo, ki, am, sk) := by
        unfold F_X0_write
        rw [if_neg c_1, if_neg c_2]
      exact k_iret (wf := [cB h n, aI G (h 6) 60 mo, aI G (h 7) 60 ki, aI G (h 8) 60 am, aZ G (h 9) 60 sk]) S hr hlk hK hW [0, 1, 2, 3, 4] rfl rfl (congrArg (fun (z : Int32 × Int32 × (Nat → Int32) × (Nat → Int32) × (Nat → Int32) × (Nat → Bool)) => [cB h z.2.1, aI G (h 6) 60 z.2.2.1, aI G (h 7) 60 z.2.2.2.1, aI G (h 8) 60 z.2.2.2.2.1, aZ G (h 9) 60 z.2.2.2.2.2]) eF).symm (congrArg (fun (z : Int32 × Int32 × (Nat → Int32) × (Nat → Int32) × (Nat → Int32) × (Nat → Bool)) => z.1) eF).symm dX0_write_17
def F_X0_cross (n : Int32) (sk : (Nat → Bool)) (x : Int32) : (Nat → Bool) :=
  if bI (F_X0_has n x) = 0 then sk
  else (updB sk x.toNatClampNeg true)
set_option maxRecDepth 100000 in
theorem k_X0_cross_f25 : Cond.fieldLink RX0 25 "FlexiblePolicy$ActBook" "struck" "[Z" ∈ wsX0_cross := by decide +kernel
set_option maxRecDepth 100000 in
theorem k_X0_cross_in0 : ∀ w ∈ u_ws RX0 TX0 6, w ∈ wsX0_cross := by decide +kernel
theorem nd_X0_cross : yX0_cross.cls = RX0 ∧ yX0_cross.cls ≠ "java/lang/invoke/MethodHandle" ∧ yX0_cross.cls ≠ "java/lang/invoke/VarHandle" ∧ (parseMethodDescriptor yX0_cross.desc).map (fun d => d.parameters.length) = some 1 := by decide +kernel
abbrev rm_X0_cross : Room := { frames := 1, cells := 0, slots := 0, locals := 21 }
set_option maxHeartbeats 4000000 in
set_option maxRecDepth 100000 in
theorem c_X0_cross (l : Launch) (G : GG) (h : Nat → Nat) (n : Int32) (sk : (Nat → Bool)) (x : Int32) : CV l G yX0_cross wsX0_cross rm_X0_cross [.ref (h 2), .int x] [cB h n, aZ G (h 9) 60 sk] [cB h n, aZ G (h 9) 60 (F_X0_cross n sk x)] := by
  refine CV_of (own := RX0) (by decide +kernel) rfl rfl (Nat.le_of_ble_eq_true rfl) ?_
  intro pP eE sS mM args below meth cC A S hK hr hlk hmn hW ls hl
  have hx := S.1
  have hb := S.2.1
  have hl : lv_has ls 2 [(0, .ref (h 2)), (1, .int x)] := hl
  have hW : Wd G A sS.heap [cB h n, aZ G (h 9) 60 sk] sS.heap [] := hW
  refine lv_aload_n hx hb dX0_cross_0 rfl (lv_at hl 0 rfl) ?_
  refine lv_iload_n hx hb dX0_cross_1 rfl (lv_at hl 1 rfl) ?_
  refine k_callVi (C := RX0) (As := [.int x]) (rest := []) (wr := [aZ G (h 9) 60 sk]) (c_X0_has l G h n x) S hK hW gX0_cross_X0_has rfl ⟨rfl, rfl⟩ nd_X0_has ⟨rfl, rfl⟩ (qb := 0) (ci := 0) rfl rfl [0] [1] rfl rfl rfl rfl (by decide) rfl hl.1 rfl dX0_cross_2 ⟨Nat.zero_le _, Nat.zero_le _⟩ (fun H locs hW => ?_)
  have hW : Wd G A sS.heap [aZ G (h 9) 60 sk, cB h n] H locs := hW
  refine lv_if_eq (tgt := 15) hx hb dX0_cross_5 (by decide) (fun c_1 => ?_) (fun c_1 => ?_)
  ·
    have eF : (F_X0_cross n sk x) = sk := by
      unfold F_X0_cross
      rw [if_pos c_1]
    exact k_vret (wf := [cB h n, aZ G (h 9) 60 sk]) S hr hlk hK hW [1, 0] rfl rfl (congrArg (fun (z : (Nat → Bool)) => [cB h n, aZ G (h 9) 60 z]) eF).symm dX0_cross_15
  ·
    refine lv_aload_n hx hb dX0_cross_8 rfl (lv_at hl 0 rfl) ?_
    refine k_get (C := RX0) (T := TX0) (N := 6) (ci := 0) (v := .ref (h 9)) S hK hW k_X0_cross_in0 1 4 rfl rfl (by decide) k_X0_cross_f25 rfl dX0_cross_9 ?_
    refine lv_iload_n hx hb dX0_cross_12 rfl (lv_at hl 1 rfl) ?_
    refine lv_iconst (v := 1) hx hb dX0_cross_13 (by decide) ?_
    refine k_zast (n := 60) (ws' := [aZ G (h 9) 60 (updB sk x.toNatClampNeg true), cB h n]) S hK hW 0 rfl (i := x) (b := true) rfl (has_in c_1) rfl dX0_cross_14 (fun H locs hW => ?_)
    have eF : (F_X0_cross n sk x) = (updB sk x.toNatClampNeg true) := by
      unfold F_X0_cross
      rw [if_neg c_1]
    exact k_vret (wf := [cB h n, aZ G (h 9) 60 (updB sk x.toNatClampNeg true)]) S hr hlk hK hW [1, 0] rfl rfl (congrArg (fun (z : (Nat → Bool)) => [cB h n, aZ G (h 9) 60 z]) eF).symm dX0_cross_15
def F_X0_stands (n : Int32) (sk : (Nat → Bool)) (x : Int32) : Bool :=
  if bI (F_X0_has n x) = 0 then false
  else (if bI (sk x.toNatClampNeg) = 0 then true
    else false)
set_option maxRecDepth 100000 in
theorem k_X0_stands_f25 : Cond.fieldLink RX0 25 "FlexiblePolicy$ActBook" "struck" "[Z" ∈ wsX0_stands := by decide +kernel
set_option maxRecDepth 100000 in
theorem k_X0_stands_in0 : ∀ w ∈ u_ws RX0 TX0 6, w ∈ wsX0_stands := by decide +kernel
theorem nd_X0_stands : yX0_stands.cls = RX0 ∧ yX0_stands.cls ≠ "java/lang/invoke/MethodHandle" ∧ yX0_stands.cls ≠ "java/lang/invoke/VarHandle" ∧ (parseMethodDescriptor yX0_stands.desc).map (fun d => d.parameters.length) = some 1 := by decide +kernel
abbrev rm_X0_stands : Room := { frames := 1, cells := 0, slots := 0, locals := 21 }
set_option maxHeartbeats 4000000 in
set_option maxRecDepth 100000 in
theorem c_X0_stands (l : Launch) (G : GG) (h : Nat → Nat) (n : Int32) (sk : (Nat → Bool)) (x : Int32) : CI l G yX0_stands wsX0_stands rm_X0_stands [.ref (h 2), .int x] [cB h n, aZ G (h 9) 60 sk] (bI (F_X0_stands n sk x)) [cB h n, aZ G (h 9) 60 sk] := by
  refine CI_of (own := RX0) (by decide +kernel) rfl rfl (Nat.le_of_ble_eq_true rfl) ?_
  intro pP eE sS mM args below meth cC A S hK hr hlk hmn hW ls hl
  have hx := S.1
  have hb := S.2.1
  have hl : lv_has ls 2 [(0, .ref (h 2)), (1, .int x)] := hl
  have hW : Wd G A sS.heap [cB h n, aZ G (h 9) 60 sk] sS.heap [] := hW
  refine lv_aload_n hx hb dX0_stands_0 rfl (lv_at hl 0 rfl) ?_
  refine lv_iload_n hx hb dX0_stands_1 rfl (lv_at hl 1 rfl) ?_
  refine k_callVi (C := RX0) (As := [.int x]) (rest := []) (wr := [aZ G (h 9) 60 sk]) (c_X0_has l G h n x) S hK hW gX0_stands_X0_has rfl ⟨rfl, rfl⟩ nd_X0_has ⟨rfl, rfl⟩ (qb := 0) (ci := 0) rfl rfl [0] [1] rfl rfl rfl rfl (by decide) rfl hl.1 rfl dX0_stands_2 ⟨Nat.zero_le _, Nat.zero_le _⟩ (fun H locs hW => ?_)
  have hW : Wd G A sS.heap [aZ G (h 9) 60 sk, cB h n] H locs := hW
  refine lv_if_eq (tgt := 21) hx hb dX0_stands_5 (by decide) (fun c_1 => ?_) (fun c_1 => ?_)
  ·
    refine lv_iconst (v := 0) hx hb dX0_stands_21 (by decide) ?_
    have eF : (F_X0_stands n sk x) = false := by
      unfold F_X0_stands
      rw [if_pos c_1]
    exact k_zret (wf := [cB h n, aZ G (h 9) 60 sk]) S hr hlk hK hW [1, 0] rfl rfl rfl (congrArg (fun (z : Bool) => bI z) eF).symm dX0_stands_22
  ·
    refine lv_aload_n hx hb dX0_stands_8 rfl (lv_at hl 0 rfl) ?_
    refine k_get (C := RX0) (T := TX0) (N := 6) (ci := 0) (v := .ref (h 9)) S hK hW k_X0_stands_in0 1 4 rfl rfl (by decide) k_X0_stands_f25 rfl dX0_stands_9 ?_
    refine lv_iload_n hx hb dX0_stands_12 rfl (lv_at hl 1 rfl) ?_
    refine k_zald (n := 60) S hK hW 0 rfl (i := x) (has_in c_1) dX0_stands_13 ?_
    refine lv_if_ne (tgt := 21) hx hb dX0_stands_14 (by decide) (fun c_2 => ?_) (fun c_2 => ?_)
    ·
      refine lv_iconst (v := 0) hx hb dX0_stands_21 (by decide) ?_
      have eF : (F_X0_stands n sk x) = false := by
        unfold F_X0_stands
        rw [if_neg c_1, if_neg c_2]
      exact k_zret (wf := [cB h n, aZ G (h 9) 60 sk]) S hr hlk hK hW [1, 0] rfl rfl rfl (congrArg (fun (z : Bool) => bI z) eF).symm dX0_stands_22
    ·
      refine lv_iconst (v := 1) hx hb dX0_stands_17 (by decide) ?_
      refine lv_goto (tgt := 22) hx hb dX0_stands_18 (by decide) ?_
      have eF : (F_X0_stands n sk x) = true := by
        unfold F_X0_stands
        rw [if_neg c_1, if_pos c_2]
      exact k_zret (wf := [cB h n, aZ G (h 9) 60 sk]) S hr hlk hK hW [1, 0] rfl rfl rfl (congrArg (fun (z : Bool) => bI z) eF).symm dX0_stands_22
theorem stands_in {n x : Int32} {g : Nat → Bool} (h : ¬ bI (F_X0_stands n g x) = 0) : vp_in x 60 := by
  rw [nbI0] at h
  unfold F_X0_stands at h
  split at h
  · cases h
  · rename_i h1
    exact has_in h1
def F_X0_standsIn (n : Int32) (mo : (Nat → Int32)) (sk : (Nat → Bool)) (x : Int32) (m : Int32) : Bool :=
  if bI (F_X0_stands n sk x) = 0 then false
  else (if (mo x.toNatClampNeg) = m then true
    else false)
set_option maxRecDepth 100000 in
theorem k_X0_standsIn_f15 : Cond.fieldLink RX0 15 "FlexiblePolicy$ActBook" "months" "[I" ∈ wsX0_standsIn := by decide +kernel
set_option maxRecDepth 100000 in
theorem k_X0_standsIn_in0 : ∀ w ∈ u_ws RX0 TX0 6, w ∈ wsX0_standsIn := by decide +kernel
theorem nd_X0_standsIn : yX0_standsIn.cls = RX0 ∧ yX0_standsIn.cls ≠ "java/lang/invoke/MethodHandle" ∧ yX0_standsIn.cls ≠ "java/lang/invoke/VarHandle" ∧ (parseMethodDescriptor yX0_standsIn.desc).map (fun d => d.parameters.length) = some 2 := by decide +kernel
abbrev rm_X0_standsIn : Room := { frames := 2, cells := 0, slots := 0, locals := 42 }
set_option maxHeartbeats 4000000 in
set_option maxRecDepth 100000 in
theorem c_X0_standsIn (l : Launch) (G : GG) (h : Nat → Nat) (n : Int32) (mo : (Nat → Int32)) (sk : (Nat → Bool)) (x : Int32) (m : Int32) : CI l G yX0_standsIn wsX0_standsIn rm_X0_standsIn [.ref (h 2), .int x, .int m] [cB h n, aI G (h 6) 60 mo, aZ G (h 9) 60 sk] (bI (F_X0_standsIn n mo sk x m)) [cB h n, aI G (h 6) 60 mo, aZ G (h 9) 60 sk] := by
  refine CI_of (own := RX0) (by decide +kernel) rfl rfl (Nat.le_of_ble_eq_true rfl) ?_
  intro pP eE sS mM args below meth cC A S hK hr hlk hmn hW ls hl
  have hx := S.1
  have hb := S.2.1
  have hl : lv_has ls 3 [(0, .ref (h 2)), (1, .int x), (2, .int m)] := hl
  have hW : Wd G A sS.heap [cB h n, aI G (h 6) 60 mo, aZ G (h 9) 60 sk] sS.heap [] := hW
  refine lv_aload_n hx hb dX0_standsIn_0 rfl (lv_at hl 0 rfl) ?_
  refine lv_iload_n hx hb dX0_standsIn_1 rfl (lv_at hl 1 rfl) ?_
  refine k_callVi (C := RX0) (As := [.int x]) (rest := []) (wr := [aI G (h 6) 60 mo]) (c_X0_stands l G h n sk x) S hK hW gX0_standsIn_X0_stands rfl ⟨rfl, rfl⟩ nd_X0_stands ⟨rfl, rfl⟩ (qb := 0) (ci := 0) rfl rfl [0, 2] [1] rfl rfl rfl rfl (by decide) rfl hl.1 rfl dX0_standsIn_2 ⟨Nat.zero_le _, Nat.zero_le _⟩ (fun H locs hW => ?_)
  have hW : Wd G A sS.heap [aI G (h 6) 60 mo, cB h n, aZ G (h 9) 60 sk] H locs := hW
  refine lv_if_eq (tgt := 22) hx hb dX0_standsIn_5 (by decide) (fun c_1 => ?_) (fun c_1 => ?_)
  ·
    refine lv_iconst (v := 0) hx hb dX0_standsIn_22 (by decide) ?_
    have eF : (F_X0_standsIn n mo sk x m) = false := by
      unfold F_X0_standsIn
      rw [if_pos c_1]
    exact k_zret (wf := [cB h n, aI G (h 6) 60 mo, aZ G (h 9) 60 sk]) S hr hlk hK hW [1, 0, 2] rfl rfl rfl (congrArg (fun (z : Bool) => bI z) eF).symm dX0_standsIn_23
  ·
    refine lv_aload_n hx hb dX0_standsIn_8 rfl (lv_at hl 0 rfl) ?_
    refine k_get (C := RX0) (T := TX0) (N := 6) (ci := 0) (v := .ref (h 6)) S hK hW k_X0_standsIn_in0 1 1 rfl rfl (by decide) k_X0_standsIn_f15 rfl dX0_standsIn_9 ?_
    refine lv_iload_n hx hb dX0_standsIn_12 rfl (lv_at hl 1 rfl) ?_
    refine k_iald (n := 60) S hK hW 0 rfl (i := x) (stands_in c_1) dX0_standsIn_13 ?_
    refine lv_iload_n hx hb dX0_standsIn_14 rfl (lv_at hl 2 rfl) ?_
    refine lv_icmp_ne (tgt := 22) hx hb dX0_standsIn_15 (by decide) (fun c_2 => ?_) (fun c_2 => ?_)
    ·
      refine lv_iconst (v := 0) hx hb dX0_standsIn_22 (by decide) ?_
      have eF : (F_X0_standsIn n mo sk x m) = false := by
        unfold F_X0_standsIn
        rw [if_neg c_1, if_neg c_2]
      exact k_zret (wf := [cB h n, aI G (h 6) 60 mo, aZ G (h 9) 60 sk]) S hr hlk hK hW [1, 0, 2] rfl rfl rfl (congrArg (fun (z : Bool) => bI z) eF).symm dX0_standsIn_23
    ·
      refine lv_iconst (v := 1) hx hb dX0_standsIn_18 (by decide) ?_
      refine lv_goto (tgt := 23) hx hb dX0_standsIn_19 (by decide) ?_
      have eF : (F_X0_standsIn n mo sk x m) = true := by
        unfold F_X0_standsIn
        rw [if_neg c_1, if_pos c_2]
      exact k_zret (wf := [cB h n, aI G (h 6) 60 mo, aZ G (h 9) 60 sk]) S hr hlk hK hW [1, 0, 2] rfl rfl rfl (congrArg (fun (z : Bool) => bI z) eF).symm dX0_standsIn_23
def F_X0_monthOf (n : Int32) (mo : (Nat → Int32)) (x : Int32) : Int32 :=
  if bI (F_X0_has n x) = 0 then (-1)
  else (mo x.toNatClampNeg)
set_option maxRecDepth 100000 in
theorem k_X0_monthOf_f15 : Cond.fieldLink RX0 15 "FlexiblePolicy$ActBook" "months" "[I" ∈ wsX0_monthOf := by decide +kernel
set_option maxRecDepth 100000 in
theorem k_X0_monthOf_in0 : ∀ w ∈ u_ws RX0 TX0 6, w ∈ wsX0_monthOf := by decide +kernel
theorem nd_X0_monthOf : yX0_monthOf.cls = RX0 ∧ yX0_monthOf.cls ≠ "java/lang/invoke/MethodHandle" ∧ yX0_monthOf.cls ≠ "java/lang/invoke/VarHandle" ∧ (parseMethodDescriptor yX0_monthOf.desc).map (fun d => d.parameters.length) = some 1 := by decide +kernel
abbrev rm_X0_monthOf : Room := { frames := 1, cells := 0, slots := 0, locals := 21 }
set_option maxHeartbeats 4000000 in
set_option maxRecDepth 100000 in
theorem c_X0_monthOf (l : Launch) (G : GG) (h : Nat → Nat) (n : Int32) (mo : (Nat → Int32)) (x : Int32) : CI l G yX0_monthOf wsX0_monthOf rm_X0_monthOf [.ref (h 2), .int x] [cB h n, aI G (h 6) 60 mo] (F_X0_monthOf n mo x) [cB h n, aI G (h 6) 60 mo] := by
  refine CI_of (own := RX0) (by decide +kernel) rfl rfl (Nat.le_of_ble_eq_true rfl) ?_
  intro pP eE sS mM args below meth cC A S hK hr hlk hmn hW ls hl
  have hx := S.1
  have hb := S.2.1
  have hl : lv_has ls 2 [(0, .ref (h 2)), (1, .int x)] := hl
  have hW : Wd G A sS.heap [cB h n, aI G (h 6) 60 mo] sS.heap [] := hW
  refine lv_aload_n hx hb dX0_monthOf_0 rfl (lv_at hl 0 rfl) ?_
  refine lv_iload_n hx hb dX0_monthOf_1 rfl (lv_at hl 1 rfl) ?_
  refine k_callVi (C := RX0) (As := [.int x]) (rest := []) (wr := [aI G (h 6) 60 mo]) (c_X0_has l G h n x) S hK hW gX0_monthOf_X0_has rfl ⟨rfl, rfl⟩ nd_X0_has ⟨rfl, rfl⟩ (qb := 0) (ci := 0) rfl rfl [0] [1] rfl rfl rfl rfl (by decide) rfl hl.1 rfl dX0_monthOf_2 ⟨Nat.zero_le _, Nat.zero_le _⟩ (fun H locs hW => ?_)
  have hW : Wd G A sS.heap [aI G (h 6) 60 mo, cB h n] H locs := hW
  refine lv_if_eq (tgt := 17) hx hb dX0_monthOf_5 (by decide) (fun c_1 => ?_) (fun c_1 => ?_)
  ·
    refine lv_iconst (v := (-1)) hx hb dX0_monthOf_17 (by decide) ?_
    have eF : (F_X0_monthOf n mo x) = (-1) := by
      unfold F_X0_monthOf
      rw [if_pos c_1]
    exact k_iret (wf := [cB h n, aI G (h 6) 60 mo]) S hr hlk hK hW [1, 0] rfl rfl rfl (congrArg (fun (z : Int32) => z) eF).symm dX0_monthOf_18
  ·
    refine lv_aload_n hx hb dX0_monthOf_8 rfl (lv_at hl 0 rfl) ?_
    refine k_get (C := RX0) (T := TX0) (N := 6) (ci := 0) (v := .ref (h 6)) S hK hW k_X0_monthOf_in0 1 1 rfl rfl (by decide) k_X0_monthOf_f15 rfl dX0_monthOf_9 ?_
    refine lv_iload_n hx hb dX0_monthOf_12 rfl (lv_at hl 1 rfl) ?_
    refine k_iald (n := 60) S hK hW 0 rfl (i := x) (has_in c_1) dX0_monthOf_13 ?_
    refine lv_goto (tgt := 18) hx hb dX0_monthOf_14 (by decide) ?_
    have eF : (F_X0_monthOf n mo x) = (mo x.toNatClampNeg) := by
      unfold F_X0_monthOf
      rw [if_neg c_1]
    exact k_iret (wf := [cB h n, aI G (h 6) 60 mo]) S hr hlk hK hW [1, 0] rfl rfl rfl (congrArg (fun (z : Int32) => z) eF).symm dX0_monthOf_18
def F_X0_kindOf (n : Int32) (ki : (Nat → Int32)) (x : Int32) : Int32 :=
  if bI (F_X0_has n x) = 0 then (-1)
  else (ki x.toNatClampNeg)
set_option maxRecDepth 100000 in
theorem k_X0_kindOf_f19 : Cond.fieldLink RX0 19 "FlexiblePolicy$ActBook" "kinds" "[I" ∈ wsX0_kindOf := by decide +kernel
set_option maxRecDepth 100000 in
theorem k_X0_kindOf_in0 : ∀ w ∈ u_ws RX0 TX0 6, w ∈ wsX0_kindOf := by decide +kernel
theorem nd_X0_kindOf : yX0_kindOf.cls = RX0 ∧ yX0_kindOf.cls ≠ "java/lang/invoke/MethodHandle" ∧ yX0_kindOf.cls ≠ "java/lang/invoke/VarHandle" ∧ (parseMethodDescriptor yX0_kindOf.desc).map (fun d => d.parameters.length) = some 1 := by decide +kernel
abbrev rm_X0_kindOf : Room := { frames := 1, cells := 0, slots := 0, locals := 21 }
set_option maxHeartbeats 4000000 in
set_option maxRecDepth 100000 in
theorem c_X0_kindOf (l : Launch) (G : GG) (h : Nat → Nat) (n : Int32) (ki : (Nat → Int32)) (x : Int32) : CI l G yX0_kindOf wsX0_kindOf rm_X0_kindOf [.ref (h 2), .int x] [cB h n, aI G (h 7) 60 ki] (F_X0_kindOf n ki x) [cB h n, aI G (h 7) 60 ki] := by
  refine CI_of (own := RX0) (by decide +kernel) rfl rfl (Nat.le_of_ble_eq_true rfl) ?_
  intro pP eE sS mM args below meth cC A S hK hr hlk hmn hW ls hl
  have hx := S.1
  have hb := S.2.1
  have hl : lv_has ls 2 [(0, .ref (h 2)), (1, .int x)] := hl
  have hW : Wd G A sS.heap [cB h n, aI G (h 7) 60 ki] sS.heap [] := hW
  refine lv_aload_n hx hb dX0_kindOf_0 rfl (lv_at hl 0 rfl) ?_
  refine lv_iload_n hx hb dX0_kindOf_1 rfl (lv_at hl 1 rfl) ?_
  refine k_callVi (C := RX0) (As := [.int x]) (rest := []) (wr := [aI G (h 7) 60 ki]) (c_X0_has l G h n x) S hK hW gX0_kindOf_X0_has rfl ⟨rfl, rfl⟩ nd_X0_has ⟨rfl, rfl⟩ (qb := 0) (ci := 0) rfl rfl [0] [1] rfl rfl rfl rfl (by decide) rfl hl.1 rfl dX0_kindOf_2 ⟨Nat.zero_le _, Nat.zero_le _⟩ (fun H locs hW => ?_)
  have hW : Wd G A sS.heap [aI G (h 7) 60 ki, cB h n] H locs := hW
  refine lv_if_eq (tgt := 17) hx hb dX0_kindOf_5 (by decide) (fun c_1 => ?_) (fun c_1 => ?_)
  ·
    refine lv_iconst (v := (-1)) hx hb dX0_kindOf_17 (by decide) ?_
    have eF : (F_X0_kindOf n ki x) = (-1) := by
      unfold F_X0_kindOf
      rw [if_pos c_1]
    exact k_iret (wf := [cB h n, aI G (h 7) 60 ki]) S hr hlk hK hW [1, 0] rfl rfl rfl (congrArg (fun (z : Int32) => z) eF).symm dX0_kindOf_18
  ·
    refine lv_aload_n hx hb dX0_kindOf_8 rfl (lv_at hl 0 rfl) ?_
    refine k_get (C := RX0) (T := TX0) (N := 6) (ci := 0) (v := .ref (h 7)) S hK hW k_X0_kindOf_in0 1 2 rfl rfl (by decide) k_X0_kindOf_f19 rfl dX0_kindOf_9 ?_
    refine lv_iload_n hx hb dX0_kindOf_12 rfl (lv_at hl 1 rfl) ?_
    refine k_iald (n := 60) S hK hW 0 rfl (i := x) (has_in c_1) dX0_kindOf_13 ?_
    refine lv_goto (tgt := 18) hx hb dX0_kindOf_14 (by decide) ?_
    have eF : (F_X0_kindOf n ki x) = (ki x.toNatClampNeg) := by
      unfold F_X0_kindOf
      rw [if_neg c_1]
    exact k_iret (wf := [cB h n, aI G (h 7) 60 ki]) S hr hlk hK hW [1, 0] rfl rfl rfl (congrArg (fun (z : Int32) => z) eF).symm dX0_kindOf_18
def F_X0_amountOf (n : Int32) (am : (Nat → Int32)) (x : Int32) : Int32 :=
  if bI (F_X0_has n x) = 0 then 0
  else (am x.toNatClampNeg)
set_option maxRecDepth 100000 in
theorem k_X0_amountOf_f22 : Cond.fieldLink RX0 22 "FlexiblePolicy$ActBook" "amounts" "[I" ∈ wsX0_amountOf := by decide +kernel
set_option maxRecDepth 100000 in
theorem k_X0_amountOf_in0 : ∀ w ∈ u_ws RX0 TX0 6, w ∈ wsX0_amountOf := by decide +kernel
theorem nd_X0_amountOf : yX0_amountOf.cls = RX0 ∧ yX0_amountOf.cls ≠ "java/lang/invoke/MethodHandle" ∧ yX0_amountOf.cls ≠ "java/lang/invoke/VarHandle" ∧ (parseMethodDescriptor yX0_amountOf.desc).map (fun d => d.parameters.length) = some 1 := by decide +kernel
abbrev rm_X0_amountOf : Room := { frames := 1, cells := 0, slots := 0, locals := 21 }
set_option maxHeartbeats 4000000 in
set_option maxRecDepth 100000 in
theorem c_X0_amountOf (l : Launch) (G : GG) (h : Nat → Nat) (n : Int32) (am : (Nat → Int32)) (x : Int32) : CI l G yX0_amountOf wsX0_amountOf rm_X0_amountOf [.ref (h 2), .int x] [cB h n, aI G (h 8) 60 am] (F_X0_amountOf n am x) [cB h n, aI G (h 8) 60 am] := by
  refine CI_of (own := RX0) (by decide +kernel) rfl rfl (Nat.le_of_ble_eq_true rfl) ?_
  intro pP eE sS mM args below meth cC A S hK hr hlk hmn hW ls hl
  have hx := S.1
  have hb := S.2.1
  have hl : lv_has ls 2 [(0, .ref (h 2)), (1, .int x)] := hl
  have hW : Wd G A sS.heap [cB h n, aI G (h 8) 60 am] sS.heap [] := hW
  refine lv_aload_n hx hb dX0_amountOf_0 rfl (lv_at hl 0 rfl) ?_
  refine lv_iload_n hx hb dX0_amountOf_1 rfl (lv_at hl 1 rfl) ?_
  refine k_callVi (C := RX0) (As := [.int x]) (rest := []) (wr := [aI G (h 8) 60 am]) (c_X0_has l G h n x) S hK hW gX0_amountOf_X0_has rfl ⟨rfl, rfl⟩ nd_X0_has ⟨rfl, rfl⟩ (qb := 0) (ci := 0) rfl rfl [0] [1] rfl rfl rfl rfl (by decide) rfl hl.1 rfl dX0_amountOf_2 ⟨Nat.zero_le _, Nat.zero_le _⟩ (fun H locs hW => ?_)
  have hW : Wd G A sS.heap [aI G (h 8) 60 am, cB h n] H locs := hW
  refine lv_if_eq (tgt := 17) hx hb dX0_amountOf_5 (by decide) (fun c_1 => ?_) (fun c_1 => ?_)
  ·
    refine lv_iconst (v := 0) hx hb dX0_amountOf_17 (by decide) ?_
    have eF : (F_X0_amountOf n am x) = 0 := by
      unfold F_X0_amountOf
      rw [if_pos c_1]
    exact k_iret (wf := [cB h n, aI G (h 8) 60 am]) S hr hlk hK hW [1, 0] rfl rfl rfl (congrArg (fun (z : Int32) => z) eF).symm dX0_amountOf_18
  ·
    refine lv_aload_n hx hb dX0_amountOf_8 rfl (lv_at hl 0 rfl) ?_
    refine k_get (C := RX0) (T := TX0) (N := 6) (ci := 0) (v := .ref (h 8)) S hK hW k_X0_amountOf_in0 1 3 rfl rfl (by decide) k_X0_amountOf_f22 rfl dX0_amountOf_9 ?_
    refine lv_iload_n hx hb dX0_amountOf_12 rfl (lv_at hl 1 rfl) ?_
    refine k_iald (n := 60) S hK hW 0 rfl (i := x) (has_in c_1) dX0_amountOf_13 ?_
    refine lv_goto (tgt := 18) hx hb dX0_amountOf_14 (by decide) ?_
    have eF : (F_X0_amountOf n am x) = (am x.toNatClampNeg) := by
      unfold F_X0_amountOf
      rw [if_neg c_1]
    exact k_iret (wf := [cB h n, aI G (h 8) 60 am]) S hr hlk hK hW [1, 0] rfl rfl rfl (congrArg (fun (z : Int32) => z) eF).symm dX0_amountOf_18
def F_X0_noteDone (n : Int32) (dn : (Nat → Bool)) (x : Int32) (w : Bool) : (Nat → Bool) :=
  if bI (F_X0_has n x) = 0 then dn
  else (updB dn x.toNatClampNeg w)
set_option maxRecDepth 100000 in
theorem k_X0_noteDone_f29 : Cond.fieldLink RX0 29 "FlexiblePolicy$ActBook" "done" "[Z" ∈ wsX0_noteDone := by decide +kernel
set_option maxRecDepth 100000 in
theorem k_X0_noteDone_in0 : ∀ w ∈ u_ws RX0 TX0 6, w ∈ wsX0_noteDone := by decide +kernel
theorem nd_X0_noteDone : yX0_noteDone.cls = RX0 ∧ yX0_noteDone.cls ≠ "java/lang/invoke/MethodHandle" ∧ yX0_noteDone.cls ≠ "java/lang/invoke/VarHandle" ∧ (parseMethodDescriptor yX0_noteDone.desc).map (fun d => d.parameters.length) = some 2 := by decide +kernel
abbrev rm_X0_noteDone : Room := { frames := 1, cells := 0, slots := 0, locals := 21 }
set_option maxHeartbeats 4000000 in
set_option maxRecDepth 100000 in
theorem c_X0_noteDone (l : Launch) (G : GG) (h : Nat → Nat) (n : Int32) (dn : (Nat → Bool)) (x : Int32) (w : Bool) : CV l G yX0_noteDone wsX0_noteDone rm_X0_noteDone [.ref (h 2), .int x, .int (bI w)] [cB h n, aZ G (h 10) 60 dn] [cB h n, aZ G (h 10) 60 (F_X0_noteDone n dn x w)] := by
  refine CV_of (own := RX0) (by decide +kernel) rfl rfl (Nat.le_of_ble_eq_true rfl) ?_
  intro pP eE sS mM args below meth cC A S hK hr hlk hmn hW ls hl
  have hx := S.1
  have hb := S.2.1
  have hl : lv_has ls 3 [(0, .ref (h 2)), (1, .int x), (2, .int (bI w))] := hl
  have hW : Wd G A sS.heap [cB h n, aZ G (h 10) 60 dn] sS.heap [] := hW
  refine lv_aload_n hx hb dX0_noteDone_0 rfl (lv_at hl 0 rfl) ?_
  refine lv_iload_n hx hb dX0_noteDone_1 rfl (lv_at hl 1 rfl) ?_
  refine k_callVi (C := RX0) (As := [.int x]) (rest := []) (wr := [aZ G (h 10) 60 dn]) (c_X0_has l G h n x) S hK hW gX0_noteDone_X0_has rfl ⟨rfl, rfl⟩ nd_X0_has ⟨rfl, rfl⟩ (qb := 0) (ci := 0) rfl rfl [0] [1] rfl rfl rfl rfl (by decide) rfl hl.1 rfl dX0_noteDone_2 ⟨Nat.zero_le _, Nat.zero_le _⟩ (fun H locs hW => ?_)
  have hW : Wd G A sS.heap [aZ G (h 10) 60 dn, cB h n] H locs := hW
  refine lv_if_eq (tgt := 15) hx hb dX0_noteDone_5 (by decide) (fun c_1 => ?_) (fun c_1 => ?_)
  ·
    have eF : (F_X0_noteDone n dn x w) = dn := by
      unfold F_X0_noteDone
      rw [if_pos c_1]
    exact k_vret (wf := [cB h n, aZ G (h 10) 60 dn]) S hr hlk hK hW [1, 0] rfl rfl (congrArg (fun (z : (Nat → Bool)) => [cB h n, aZ G (h 10) 60 z]) eF).symm dX0_noteDone_15
  ·
    refine lv_aload_n hx hb dX0_noteDone_8 rfl (lv_at hl 0 rfl) ?_
    refine k_get (C := RX0) (T := TX0) (N := 6) (ci := 0) (v := .ref (h 10)) S hK hW k_X0_noteDone_in0 1 5 rfl rfl (by decide) k_X0_noteDone_f29 rfl dX0_noteDone_9 ?_
    refine lv_iload_n hx hb dX0_noteDone_12 rfl (lv_at hl 1 rfl) ?_
    refine lv_iload_n hx hb dX0_noteDone_13 rfl (lv_at hl 2 rfl) ?_
    refine k_zast (n := 60) (ws' := [aZ G (h 10) 60 (updB dn x.toNatClampNeg w), cB h n]) S hK hW 0 rfl (i := x) (b := w) rfl (has_in c_1) rfl dX0_noteDone_14 (fun H locs hW => ?_)
    have eF : (F_X0_noteDone n dn x w) = (updB dn x.toNatClampNeg w) := by
      unfold F_X0_noteDone
      rw [if_neg c_1]
    exact k_vret (wf := [cB h n, aZ G (h 10) 60 (updB dn x.toNatClampNeg w)]) S hr hlk hK hW [1, 0] rfl rfl (congrArg (fun (z : (Nat → Bool)) => [cB h n, aZ G (h 10) 60 z]) eF).symm dX0_noteDone_15
def F_X0_wasDone (n : Int32) (dn : (Nat → Bool)) (x : Int32) : Bool :=
  if bI (F_X0_has n x) = 0 then false
  else (if bI (dn x.toNatClampNeg) = 0 then false
    else true)
set_option maxRecDepth 100000 in
theorem k_X0_wasDone_f29 : Cond.fieldLink RX0 29 "FlexiblePolicy$ActBook" "done" "[Z" ∈ wsX0_wasDone := by decide +kernel
set_option maxRecDepth 100000 in
theorem k_X0_wasDone_in0 : ∀ w ∈ u_ws RX0 TX0 6, w ∈ wsX0_wasDone := by decide +kernel
theorem nd_X0_wasDone : yX0_wasDone.cls = RX0 ∧ yX0_wasDone.cls ≠ "java/lang/invoke/MethodHandle" ∧ yX0_wasDone.cls ≠ "java/lang/invoke/VarHandle" ∧ (parseMethodDescriptor yX0_wasDone.desc).map (fun d => d.parameters.length) = some 1 := by decide +kernel
abbrev rm_X0_wasDone : Room := { frames := 1, cells := 0, slots := 0, locals := 21 }
set_option maxHeartbeats 4000000 in
set_option maxRecDepth 100000 in
theorem c_X0_wasDone (l : Launch) (G : GG) (h : Nat → Nat) (n : Int32) (dn : (Nat → Bool)) (x : Int32) : CI l G yX0_wasDone wsX0_wasDone rm_X0_wasDone [.ref (h 2), .int x] [cB h n, aZ G (h 10) 60 dn] (bI (F_X0_wasDone n dn x)) [cB h n, aZ G (h 10) 60 dn] := by
  refine CI_of (own := RX0) (by decide +kernel) rfl rfl (Nat.le_of_ble_eq_true rfl) ?_
  intro pP eE sS mM args below meth cC A S hK hr hlk hmn hW ls hl
  have hx := S.1
  have hb := S.2.1
  have hl : lv_has ls 2 [(0, .ref (h 2)), (1, .int x)] := hl
  have hW : Wd G A sS.heap [cB h n, aZ G (h 10) 60 dn] sS.heap [] := hW
  refine lv_aload_n hx hb dX0_wasDone_0 rfl (lv_at hl 0 rfl) ?_
  refine lv_iload_n hx hb dX0_wasDone_1 rfl (lv_at hl 1 rfl) ?_
  refine k_callVi (C := RX0) (As := [.int x]) (rest := []) (wr := [aZ G (h 10) 60 dn]) (c_X0_has l G h n x) S hK hW gX0_wasDone_X0_has rfl ⟨rfl, rfl⟩ nd_X0_has ⟨rfl, rfl⟩ (qb := 0) (ci := 0) rfl rfl [0] [1] rfl rfl rfl rfl (by decide) rfl hl.1 rfl dX0_wasDone_2 ⟨Nat.zero_le _, Nat.zero_le _⟩ (fun H locs hW => ?_)
  have hW : Wd G A sS.heap [aZ G (h 10) 60 dn, cB h n] H locs := hW
  refine lv_if_eq (tgt := 21) hx hb dX0_wasDone_5 (by decide) (fun c_1 => ?_) (fun c_1 => ?_)
  ·
    refine lv_iconst (v := 0) hx hb dX0_wasDone_21 (by decide) ?_
    have eF : (F_X0_wasDone n dn x) = false := by
      unfold F_X0_wasDone
      rw [if_pos c_1]
    exact k_zret (wf := [cB h n, aZ G (h 10) 60 dn]) S hr hlk hK hW [1, 0] rfl rfl rfl (congrArg (fun (z : Bool) => bI z) eF).symm dX0_wasDone_22
  ·
    refine lv_aload_n hx hb dX0_wasDone_8 rfl (lv_at hl 0 rfl) ?_
    refine k_get (C := RX0) (T := TX0) (N := 6) (ci := 0) (v := .ref (h 10)) S hK hW k_X0_wasDone_in0 1 5 rfl rfl (by decide) k_X0_wasDone_f29 rfl dX0_wasDone_9 ?_
    refine lv_iload_n hx hb dX0_wasDone_12 rfl (lv_at hl 1 rfl) ?_
    refine k_zald (n := 60) S hK hW 0 rfl (i := x) (has_in c_1) dX0_wasDone_13 ?_
    refine lv_if_eq (tgt := 21) hx hb dX0_wasDone_14 (by decide) (fun c_2 => ?_) (fun c_2 => ?_)
    ·
      refine lv_iconst (v := 0) hx hb dX0_wasDone_21 (by decide) ?_
      have eF : (F_X0_wasDone n dn x) = false := by
        unfold F_X0_wasDone
        rw [if_neg c_1, if_pos c_2]
      exact k_zret (wf := [cB h n, aZ G (h 10) 60 dn]) S hr hlk hK hW [1, 0] rfl rfl rfl (congrArg (fun (z : Bool) => bI z) eF).symm dX0_wasDone_22
    ·
      refine lv_iconst (v := 1) hx hb dX0_wasDone_17 (by decide) ?_
      refine lv_goto (tgt := 22) hx hb dX0_wasDone_18 (by decide) ?_
      have eF : (F_X0_wasDone n dn x) = true := by
        unfold F_X0_wasDone
        rw [if_neg c_1, if_neg c_2]
      exact k_zret (wf := [cB h n, aZ G (h 10) 60 dn]) S hr hlk hK hW [1, 0] rfl rfl rfl (congrArg (fun (z : Bool) => bI z) eF).symm dX0_wasDone_22
end X0
