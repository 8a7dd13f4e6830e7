def F_X2_agree (x1 : Int32) (x2 : Int32) (x3 : Int32) : S3 :=
  (x1, x2, x3)
set_option maxRecDepth 100000 in
theorem k_X2_agree_f7 : Cond.fieldLink RX2 7 "FlexiblePolicy$Plan" "startAge" "I" ∈ wsX2_agree := by decide +kernel
set_option maxRecDepth 100000 in
theorem k_X2_agree_in2 : ∀ w ∈ u_ws RX2 TX2 3, w ∈ wsX2_agree := by decide +kernel
set_option maxRecDepth 100000 in
theorem k_X2_agree_f14 : Cond.fieldLink RX2 14 "FlexiblePolicy$Plan" "insured" "I" ∈ wsX2_agree := by decide +kernel
set_option maxRecDepth 100000 in
theorem k_X2_agree_f17 : Cond.fieldLink RX2 17 "FlexiblePolicy$Plan" "kind" "I" ∈ wsX2_agree := by decide +kernel
theorem nd_X2_agree : yX2_agree.cls = RX2 ∧ yX2_agree.cls ≠ "java/lang/invoke/MethodHandle" ∧ yX2_agree.cls ≠ "java/lang/invoke/VarHandle" ∧ (parseMethodDescriptor yX2_agree.desc).map (fun d => d.parameters.length) = some 3 := by decide +kernel
abbrev rm_X2_agree : Room := { frames := 0, cells := 0, slots := 0, locals := 0 }
set_option maxHeartbeats 4000000 in
set_option maxRecDepth 100000 in
theorem c_X2_agree (l : Launch) (G : GG) (a : Nat) (q : S3) (x1 : Int32) (x2 : Int32) (x3 : Int32) : CV l G yX2_agree wsX2_agree rm_X2_agree [.ref a, .int x1, .int x2, .int x3] [cP a q] [cP a (F_X2_agree x1 x2 x3)] := by
  refine CV_of (own := RX2) (by decide +kernel) rfl rfl (Nat.le_of_ble_eq_true rfl) ?_
  intro pP eE sS mM args below meth cC A S hK hr hlk hmn hW ls hl
  have hx := S.1
  have hb := S.2.1
  have hl : lv_has ls 4 [(0, .ref a), (1, .int x1), (2, .int x2), (3, .int x3)] := hl
  have hW : Wd G A sS.heap [cP a q] sS.heap [] := hW
  refine lv_aload_n hx hb dX2_agree_0 rfl (lv_at hl 0 rfl) ?_
  refine lv_iload_n hx hb dX2_agree_1 rfl (lv_at hl 1 rfl) ?_
  refine k_put (C := RX2) (T := TX2) (N := 3) (ci := 2) (v := .int x1) (ws' := [cP a (x1, q.2.1, q.2.2)]) S hK hW k_X2_agree_in2 tyX2_ok nmX2 0 0 rfl rfl (by decide) k_X2_agree_f7 rfl rfl rfl rfl rfl dX2_agree_2 (fun H locs hW => ?_)
  refine lv_aload_n hx hb dX2_agree_5 rfl (lv_at hl 0 rfl) ?_
  refine lv_iload_n hx hb dX2_agree_6 rfl (lv_at hl 2 rfl) ?_
  refine k_put (C := RX2) (T := TX2) (N := 3) (ci := 2) (v := .int x2) (ws' := [cP a (x1, x2, q.2.2)]) S hK hW k_X2_agree_in2 tyX2_ok nmX2 0 1 rfl rfl (by decide) k_X2_agree_f14 rfl rfl rfl rfl rfl dX2_agree_7 (fun H locs hW => ?_)
  refine lv_aload_n hx hb dX2_agree_10 rfl (lv_at hl 0 rfl) ?_
  refine lv_iload_n hx hb dX2_agree_11 rfl (lv_at hl 3 rfl) ?_
  refine k_put (C := RX2) (T := TX2) (N := 3) (ci := 2) (v := .int x3) (ws' := [cP a (x1, x2, x3)]) S hK hW k_X2_agree_in2 tyX2_ok nmX2 0 2 rfl rfl (by decide) k_X2_agree_f17 rfl rfl rfl rfl rfl dX2_agree_12 (fun H locs hW => ?_)
  have eF : (F_X2_agree x1 x2 x3) = (x1, x2, x3) := by
    rfl
  exact k_vret (wf := [cP a (x1, x2, x3)]) S hr hlk hK hW [0] rfl rfl (congrArg (fun (z : S3) => [cP a z]) eF).symm dX2_agree_15
def F_X2_ageIn (q : S3) (m : Int32) : Int32 :=
  (q.1 + (m / 12))
set_option maxRecDepth 100000 in
theorem k_X2_ageIn_f7 : Cond.fieldLink RX2 7 "FlexiblePolicy$Plan" "startAge" "I" ∈ wsX2_ageIn := by decide +kernel
set_option maxRecDepth 100000 in
theorem k_X2_ageIn_in2 : ∀ w ∈ u_ws RX2 TX2 3, w ∈ wsX2_ageIn := by decide +kernel
theorem nd_X2_ageIn : yX2_ageIn.cls = RX2 ∧ yX2_ageIn.cls ≠ "java/lang/invoke/MethodHandle" ∧ yX2_ageIn.cls ≠ "java/lang/invoke/VarHandle" ∧ (parseMethodDescriptor yX2_ageIn.desc).map (fun d => d.parameters.length) = some 1 := by decide +kernel
abbrev rm_X2_ageIn : Room := { frames := 0, cells := 0, slots := 0, locals := 0 }
set_option maxHeartbeats 4000000 in
set_option maxRecDepth 100000 in
theorem c_X2_ageIn (l : Launch) (G : GG) (a : Nat) (q : S3) (m : Int32) : CI l G yX2_ageIn wsX2_ageIn rm_X2_ageIn [.ref a, .int m] [cP a q] (F_X2_ageIn q m) [cP a q] := by
  refine CI_of (own := RX2) (by decide +kernel) rfl rfl (Nat.le_of_ble_eq_true rfl) ?_
  intro pP eE sS mM args below meth cC A S hK hr hlk hmn hW ls hl
  have hx := S.1
  have hb := S.2.1
  have hl : lv_has ls 2 [(0, .ref a), (1, .int m)] := hl
  have hW : Wd G A sS.heap [cP a q] sS.heap [] := hW
  refine lv_aload_n hx hb dX2_ageIn_0 rfl (lv_at hl 0 rfl) ?_
  refine k_get (C := RX2) (T := TX2) (N := 3) (ci := 2) (v := .int q.1) S hK hW k_X2_ageIn_in2 0 0 rfl rfl (by decide) k_X2_ageIn_f7 rfl dX2_ageIn_1 ?_
  refine lv_iload_n hx hb dX2_ageIn_4 rfl (lv_at hl 1 rfl) ?_
  refine lv_bipush (v := 12) hx hb dX2_ageIn_5 (by decide) ?_
  refine lv_idiv hx hb dX2_ageIn_7 (by decide) ?_
  refine lv_iadd hx hb dX2_ageIn_8 ?_
  have eF : (F_X2_ageIn q m) = (q.1 + (m / 12)) := by
    rfl
  exact k_iret (wf := [cP a q]) S hr hlk hK hW [0] rfl rfl rfl (congrArg (fun (z : Int32) => z) eF).symm dX2_ageIn_9
def F_X2_corridorFor (x : Int32) : Int32 :=
  if 40 < x then (if x < 69 then (250 - (5 * (x - 40)))
    else 105)
  else 250
theorem nd_X2_corridorFor : yX2_corridorFor.cls = RX2 ∧ yX2_corridorFor.cls ≠ "java/lang/invoke/MethodHandle" ∧ yX2_corridorFor.cls ≠ "java/lang/invoke/VarHandle" ∧ (parseMethodDescriptor yX2_corridorFor.desc).map (fun d => d.parameters.length) = some 1 := by decide +kernel
abbrev rm_X2_corridorFor : Room := { frames := 0, cells := 0, slots := 0, locals := 0 }
set_option maxHeartbeats 4000000 in
set_option maxRecDepth 100000 in
theorem c_X2_corridorFor (l : Launch) (G : GG) (a : Nat) (q : S3) (x : Int32) : CI l G yX2_corridorFor wsX2_corridorFor rm_X2_corridorFor [.ref a, .int x] [cP a q] (F_X2_corridorFor x) [cP a q] := by
  refine CI_of (own := RX2) (by decide +kernel) rfl rfl (Nat.le_of_ble_eq_true rfl) ?_
  intro pP eE sS mM args below meth cC A S hK hr hlk hmn hW ls hl
  have hx := S.1
  have hb := S.2.1
  have hl : lv_has ls 2 [(0, .ref a), (1, .int x)] := hl
  have hW : Wd G A sS.heap [cP a q] sS.heap [] := hW
  refine lv_iload_n hx hb dX2_corridorFor_0 rfl (lv_at hl 1 rfl) ?_
  refine lv_bipush (v := 40) hx hb dX2_corridorFor_1 (by decide) ?_
  refine lv_icmp_gt (tgt := 10) hx hb dX2_corridorFor_3 (by decide) (fun c_1 => ?_) (fun c_1 => ?_)
  ·
    refine lv_iload_n hx hb dX2_corridorFor_10 rfl (lv_at hl 1 rfl) ?_
    refine lv_bipush (v := 69) hx hb dX2_corridorFor_11 (by decide) ?_
    refine lv_icmp_lt (tgt := 21) hx hb dX2_corridorFor_13 (by decide) (fun c_2 => ?_) (fun c_2 => ?_)
    ·
      refine lv_sipush (v := 250) hx hb dX2_corridorFor_21 (by decide) ?_
      refine lv_iconst (v := 5) hx hb dX2_corridorFor_24 (by decide) ?_
      refine lv_iload_n hx hb dX2_corridorFor_25 rfl (lv_at hl 1 rfl) ?_
      refine lv_bipush (v := 40) hx hb dX2_corridorFor_26 (by decide) ?_
      refine lv_isub hx hb dX2_corridorFor_28 ?_
      refine lv_imul hx hb dX2_corridorFor_29 ?_
      refine lv_isub hx hb dX2_corridorFor_30 ?_
      have eF : (F_X2_corridorFor x) = (250 - (5 * (x - 40))) := by
        unfold F_X2_corridorFor
        rw [if_pos c_1, if_pos c_2]
      exact k_iret (wf := [cP a q]) S hr hlk hK hW [0] rfl rfl rfl (congrArg (fun (z : Int32) => z) eF).symm dX2_corridorFor_31
    ·
      refine lv_bipush (v := 105) hx hb dX2_corridorFor_16 (by decide) ?_
      refine lv_goto (tgt := 31) hx hb dX2_corridorFor_18 (by decide) ?_
      have eF : (F_X2_corridorFor x) = 105 := by
        unfold F_X2_corridorFor
        rw [if_pos c_1, if_neg c_2]
      exact k_iret (wf := [cP a q]) S hr hlk hK hW [0] rfl rfl rfl (congrArg (fun (z : Int32) => z) eF).symm dX2_corridorFor_31
  ·
    refine lv_sipush (v := 250) hx hb dX2_corridorFor_6 (by decide) ?_
    have eF : (F_X2_corridorFor x) = 250 := by
      unfold F_X2_corridorFor
      rw [if_neg c_1]
    exact k_iret (wf := [cP a q]) S hr hlk hK hW [0] rfl rfl rfl (congrArg (fun (z : Int32) => z) eF).symm dX2_corridorFor_9
def F_X2_rateFor (x : Int32) : Int32 :=
  if 30 < x then (10 + (2 * (x - 30)))
  else 10
theorem nd_X2_rateFor : yX2_rateFor.cls = RX2 ∧ yX2_rateFor.cls ≠ "java/lang/invoke/MethodHandle" ∧ yX2_rateFor.cls ≠ "java/lang/invoke/VarHandle" ∧ (parseMethodDescriptor yX2_rateFor.desc).map (fun d => d.parameters.length) = some 1 := by decide +kernel
abbrev rm_X2_rateFor : Room := { frames := 0, cells := 0, slots := 0, locals := 0 }
set_option maxHeartbeats 4000000 in
set_option maxRecDepth 100000 in
theorem c_X2_rateFor (l : Launch) (G : GG) (a : Nat) (q : S3) (x : Int32) : CI l G yX2_rateFor wsX2_rateFor rm_X2_rateFor [.ref a, .int x] [cP a q] (F_X2_rateFor x) [cP a q] := by
  refine CI_of (own := RX2) (by decide +kernel) rfl rfl (Nat.le_of_ble_eq_true rfl) ?_
  intro pP eE sS mM args below meth cC A S hK hr hlk hmn hW ls hl
  have hx := S.1
  have hb := S.2.1
  have hl : lv_has ls 2 [(0, .ref a), (1, .int x)] := hl
  have hW : Wd G A sS.heap [cP a q] sS.heap [] := hW
  refine lv_iload_n hx hb dX2_rateFor_0 rfl (lv_at hl 1 rfl) ?_
  refine lv_bipush (v := 30) hx hb dX2_rateFor_1 (by decide) ?_
  refine lv_icmp_gt (tgt := 11) hx hb dX2_rateFor_3 (by decide) (fun c_1 => ?_) (fun c_1 => ?_)
  ·
    refine lv_bipush (v := 10) hx hb dX2_rateFor_11 (by decide) ?_
    refine lv_iconst (v := 2) hx hb dX2_rateFor_13 (by decide) ?_
    refine lv_iload_n hx hb dX2_rateFor_14 rfl (lv_at hl 1 rfl) ?_
    refine lv_bipush (v := 30) hx hb dX2_rateFor_15 (by decide) ?_
    refine lv_isub hx hb dX2_rateFor_17 ?_
    refine lv_imul hx hb dX2_rateFor_18 ?_
    refine lv_iadd hx hb dX2_rateFor_19 ?_
    have eF : (F_X2_rateFor x) = (10 + (2 * (x - 30))) := by
      unfold F_X2_rateFor
      rw [if_pos c_1]
    exact k_iret (wf := [cP a q]) S hr hlk hK hW [0] rfl rfl rfl (congrArg (fun (z : Int32) => z) eF).symm dX2_rateFor_20
  ·
    refine lv_bipush (v := 10) hx hb dX2_rateFor_6 (by decide) ?_
    refine lv_goto (tgt := 20) hx hb dX2_rateFor_8 (by decide) ?_
    have eF : (F_X2_rateFor x) = 10 := by
      unfold F_X2_rateFor
      rw [if_neg c_1]
    exact k_iret (wf := [cP a q]) S hr hlk hK hW [0] rfl rfl rfl (congrArg (fun (z : Int32) => z) eF).symm dX2_rateFor_20
def F_X2_deathSumFor (q : S3) (x : Int32) (m : Int32) : Int32 :=
  if q.2.2 = 1 then (if ((x.toInt64 * (F_X2_corridorFor (F_X2_ageIn q m)).toInt64) / 100) < (q.2.1.toInt64 + x.toInt64) then (q.2.1.toInt64 + x.toInt64) else ((x.toInt64 * (F_X2_corridorFor (F_X2_ageIn q m)).toInt64) / 100)).toInt32
  else (if ((x.toInt64 * (F_X2_corridorFor (F_X2_ageIn q m)).toInt64) / 100) < q.2.1.toInt64 then q.2.1.toInt64 else ((x.toInt64 * (F_X2_corridorFor (F_X2_ageIn q m)).toInt64) / 100)).toInt32
set_option maxRecDepth 100000 in
theorem k_X2_deathSumFor_f17 : Cond.fieldLink RX2 17 "FlexiblePolicy$Plan" "kind" "I" ∈ wsX2_deathSumFor := by decide +kernel
set_option maxRecDepth 100000 in
theorem k_X2_deathSumFor_in2 : ∀ w ∈ u_ws RX2 TX2 3, w ∈ wsX2_deathSumFor := by decide +kernel
set_option maxRecDepth 100000 in
theorem k_X2_deathSumFor_f14 : Cond.fieldLink RX2 14 "FlexiblePolicy$Plan" "insured" "I" ∈ wsX2_deathSumFor := by decide +kernel
set_option maxRecDepth 100000 in
theorem k_X2_deathSumFor_c27 : Cond.constantLong RX2 27 (100) ∈ wsX2_deathSumFor := by decide +kernel
set_option maxRecDepth 100000 in
theorem k_X2_deathSumFor_m29 : Cond.methodLink RX2 29 Lib.MathLoose.max_long.x ∈ wsX2_deathSumFor := by decide +kernel
set_option maxRecDepth 100000 in
theorem k_X2_deathSumFor_ms29 : Cond.static Lib.MathLoose.max_long.x ∈ wsX2_deathSumFor := by decide +kernel
set_option maxRecDepth 100000 in
theorem k_X2_deathSumFor_mi : Cond.initialized "java/lang/Math" ∈ wsX2_deathSumFor := by decide +kernel
set_option maxRecDepth 100000 in
theorem k_X2_deathSumFor_mc29 : Cond.code Lib.MathLoose.max_long.x Lib.MathLoose.max_long.code 4 (some .long) ∈ wsX2_deathSumFor := by decide +kernel
theorem nd_X2_deathSumFor : yX2_deathSumFor.cls = RX2 ∧ yX2_deathSumFor.cls ≠ "java/lang/invoke/MethodHandle" ∧ yX2_deathSumFor.cls ≠ "java/lang/invoke/VarHandle" ∧ (parseMethodDescriptor yX2_deathSumFor.desc).map (fun d => d.parameters.length) = some 2 := by decide +kernel
abbrev rm_X2_deathSumFor : Room := { frames := 1, cells := 0, slots := 0, locals := 23 }
set_option maxHeartbeats 4000000 in
set_option maxRecDepth 100000 in
theorem c_X2_deathSumFor (l : Launch) (G : GG) (a : Nat) (q : S3) (x : Int32) (m : Int32) : CI l G yX2_deathSumFor wsX2_deathSumFor rm_X2_deathSumFor [.ref a, .int x, .int m] [cP a q] (F_X2_deathSumFor q x m) [cP a q] := by
  refine CI_of (own := RX2) (by decide +kernel) rfl rfl (Nat.le_of_ble_eq_true rfl) ?_
  intro pP eE sS mM args below meth cC A S hK hr hlk hmn hW ls hl
  have hx := S.1
  have hb := S.2.1
  have hl : lv_has ls 7 [(0, .ref a), (1, .int x), (2, .int m)] := hl
  have hW : Wd G A sS.heap [cP a q] sS.heap [] := hW
  refine lv_aload_n hx hb dX2_deathSumFor_0 rfl (lv_at hl 0 rfl) ?_
  refine k_get (C := RX2) (T := TX2) (N := 3) (ci := 2) (v := .int q.2.2) S hK hW k_X2_deathSumFor_in2 0 2 rfl rfl (by decide) k_X2_deathSumFor_f17 rfl dX2_deathSumFor_1 ?_
  refine lv_iconst (v := 1) hx hb dX2_deathSumFor_4 (by decide) ?_
  refine lv_icmp_ne (tgt := 19) hx hb dX2_deathSumFor_5 (by decide) (fun c_1 => ?_) (fun c_1 => ?_)
  ·
    refine lv_aload_n hx hb dX2_deathSumFor_19 rfl (lv_at hl 0 rfl) ?_
    refine k_get (C := RX2) (T := TX2) (N := 3) (ci := 2) (v := .int q.2.1) S hK hW k_X2_deathSumFor_in2 0 1 rfl rfl (by decide) k_X2_deathSumFor_f14 rfl dX2_deathSumFor_20 ?_
    refine lv_i2l hx hb dX2_deathSumFor_23 rfl ?_
    refine lv_lstore_n (lv' := [(3, .long q.2.1.toInt64), (0, .ref a), (1, .int x), (2, .int m)]) hx hb dX2_deathSumFor_24 rfl hl (by decide) rfl (fun ls hl => ?_)
    refine lv_iload_n hx hb dX2_deathSumFor_25 rfl (lv_at hl 2 rfl) ?_
    refine lv_i2l hx hb dX2_deathSumFor_26 rfl ?_
    refine lv_aload_n hx hb dX2_deathSumFor_27 rfl (lv_at hl 1 rfl) ?_
    refine lv_aload_n hx hb dX2_deathSumFor_28 rfl (lv_at hl 1 rfl) ?_
    refine lv_iload_n hx hb dX2_deathSumFor_29 rfl (lv_at hl 3 rfl) ?_
    refine k_callVi (C := RX2) (As := [.int m]) (rest := [.ref a, .long x.toInt64]) (wr := []) (c_X2_ageIn l G a q m) S hK hW gX2_deathSumFor_X2_ageIn rfl ⟨rfl, rfl⟩ nd_X2_ageIn ⟨rfl, rfl⟩ (qb := 0) (ci := 2) rfl rfl [0] [] rfl rfl rfl rfl (by decide) rfl hl.1 rfl dX2_deathSumFor_30 ⟨Nat.zero_le _, Nat.zero_le _⟩ (fun H locs hW => ?_)
    have hW : Wd G A sS.heap [cP a q] H locs := hW
    refine k_callVi (C := RX2) (As := [.int (F_X2_ageIn q m)]) (rest := [.long x.toInt64]) (wr := []) (c_X2_corridorFor l G a q (F_X2_ageIn q m)) S hK hW gX2_deathSumFor_X2_corridorFor rfl ⟨rfl, rfl⟩ nd_X2_corridorFor ⟨rfl, rfl⟩ (qb := 0) (ci := 2) rfl rfl [0] [] rfl rfl rfl rfl (by decide) rfl hl.1 rfl dX2_deathSumFor_33 ⟨Nat.zero_le _, Nat.zero_le _⟩ (fun H locs hW => ?_)
    have hW : Wd G A sS.heap [cP a q] H locs := hW
    refine lv_i2l hx hb dX2_deathSumFor_36 rfl ?_
    refine lv_lmul hx hb dX2_deathSumFor_37 ?_
    refine k_ldc2 S k_X2_deathSumFor_c27 dX2_deathSumFor_38 ?_
    refine lv_ldiv hx hb dX2_deathSumFor_41 (by decide) ?_
    refine lv_lstore (lv' := [(5, .long ((x.toInt64 * (F_X2_corridorFor (F_X2_ageIn q m)).toInt64) / 100)), (3, .long q.2.1.toInt64), (0, .ref a), (1, .int x), (2, .int m)]) hx hb dX2_deathSumFor_42 hl (by decide) rfl (fun ls hl => ?_)
    refine lv_lload_n hx hb dX2_deathSumFor_44 rfl (lv_at hl 1 rfl) ?_
    refine lv_lload hx hb dX2_deathSumFor_45 (lv_at hl 0 rfl) ?_
    refine k_maxl S k_X2_deathSumFor_m29 k_X2_deathSumFor_ms29 k_X2_deathSumFor_mi k_X2_deathSumFor_mc29 hl.1 rfl rfl ⟨Nat.zero_le _, Nat.zero_le _⟩ dX2_deathSumFor_47 ?_
    refine lv_l2i hx hb dX2_deathSumFor_50 rfl ?_
    have eF : (F_X2_deathSumFor q x m) = (if ((x.toInt64 * (F_X2_corridorFor (F_X2_ageIn q m)).toInt64) / 100) < q.2.1.toInt64 then q.2.1.toInt64 else ((x.toInt64 * (F_X2_corridorFor (F_X2_ageIn q m)).toInt64) / 100)).toInt32 := by
      unfold F_X2_deathSumFor
      rw [if_neg c_1]
    exact k_iret (wf := [cP a q]) S hr hlk hK hW [0] rfl rfl rfl (congrArg (fun (z : Int32) => z) eF).symm dX2_deathSumFor_51
  ·
    refine lv_aload_n hx hb dX2_deathSumFor_8 rfl (lv_at hl 0 rfl) ?_
    refine k_get (C := RX2) (T := TX2) (N := 3) (ci := 2) (v := .int q.2.1) S hK hW k_X2_deathSumFor_in2 0 1 rfl rfl (by decide) k_X2_deathSumFor_f14 rfl dX2_deathSumFor_9 ?_
    refine lv_i2l hx hb dX2_deathSumFor_12 rfl ?_
    refine lv_iload_n hx hb dX2_deathSumFor_13 rfl (lv_at hl 1 rfl) ?_
    refine lv_i2l hx hb dX2_deathSumFor_14 rfl ?_
    refine lv_ladd hx hb dX2_deathSumFor_15 ?_
    refine lv_goto (tgt := 24) hx hb dX2_deathSumFor_16 (by decide) ?_
    refine lv_lstore_n (lv' := [(3, .long (q.2.1.toInt64 + x.toInt64)), (0, .ref a), (1, .int x), (2, .int m)]) hx hb dX2_deathSumFor_24 rfl hl (by decide) rfl (fun ls hl => ?_)
    refine lv_iload_n hx hb dX2_deathSumFor_25 rfl (lv_at hl 2 rfl) ?_
    refine lv_i2l hx hb dX2_deathSumFor_26 rfl ?_
    refine lv_aload_n hx hb dX2_deathSumFor_27 rfl (lv_at hl 1 rfl) ?_
    refine lv_aload_n hx hb dX2_deathSumFor_28 rfl (lv_at hl 1 rfl) ?_
    refine lv_iload_n hx hb dX2_deathSumFor_29 rfl (lv_at hl 3 rfl) ?_
    refine k_callVi (C := RX2) (As := [.int m]) (rest := [.ref a, .long x.toInt64]) (wr := []) (c_X2_ageIn l G a q m) S hK hW gX2_deathSumFor_X2_ageIn rfl ⟨rfl, rfl⟩ nd_X2_ageIn ⟨rfl, rfl⟩ (qb := 0) (ci := 2) rfl rfl [0] [] rfl rfl rfl rfl (by decide) rfl hl.1 rfl dX2_deathSumFor_30 ⟨Nat.zero_le _, Nat.zero_le _⟩ (fun H locs hW => ?_)
    have hW : Wd G A sS.heap [cP a q] H locs := hW
    refine k_callVi (C := RX2) (As := [.int (F_X2_ageIn q m)]) (rest := [.long x.toInt64]) (wr := []) (c_X2_corridorFor l G a q (F_X2_ageIn q m)) S hK hW gX2_deathSumFor_X2_corridorFor rfl ⟨rfl, rfl⟩ nd_X2_corridorFor ⟨rfl, rfl⟩ (qb := 0) (ci := 2) rfl rfl [0] [] rfl rfl rfl rfl (by decide) rfl hl.1 rfl dX2_deathSumFor_33 ⟨Nat.zero_le _, Nat.zero_le _⟩ (fun H locs hW => ?_)
    have hW : Wd G A sS.heap [cP a q] H locs := hW
    refine lv_i2l hx hb dX2_deathSumFor_36 rfl ?_
    refine lv_lmul hx hb dX2_deathSumFor_37 ?_
    refine k_ldc2 S k_X2_deathSumFor_c27 dX2_deathSumFor_38 ?_
    refine lv_ldiv hx hb dX2_deathSumFor_41 (by decide) ?_
    refine lv_lstore (lv' := [(5, .long ((x.toInt64 * (F_X2_corridorFor (F_X2_ageIn q m)).toInt64) / 100)), (3, .long (q.2.1.toInt64 + x.toInt64)), (0, .ref a), (1, .int x), (2, .int m)]) hx hb dX2_deathSumFor_42 hl (by decide) rfl (fun ls hl => ?_)
    refine lv_lload_n hx hb dX2_deathSumFor_44 rfl (lv_at hl 1 rfl) ?_
    refine lv_lload hx hb dX2_deathSumFor_45 (lv_at hl 0 rfl) ?_
    refine k_maxl S k_X2_deathSumFor_m29 k_X2_deathSumFor_ms29 k_X2_deathSumFor_mi k_X2_deathSumFor_mc29 hl.1 rfl rfl ⟨Nat.zero_le _, Nat.zero_le _⟩ dX2_deathSumFor_47 ?_
    refine lv_l2i hx hb dX2_deathSumFor_50 rfl ?_
    have eF : (F_X2_deathSumFor q x m) = (if ((x.toInt64 * (F_X2_corridorFor (F_X2_ageIn q m)).toInt64) / 100) < (q.2.1.toInt64 + x.toInt64) then (q.2.1.toInt64 + x.toInt64) else ((x.toInt64 * (F_X2_corridorFor (F_X2_ageIn q m)).toInt64) / 100)).toInt32 := by
      unfold F_X2_deathSumFor
      rw [if_pos c_1]
    exact k_iret (wf := [cP a q]) S hr hlk hK hW [0] rfl rfl rfl (congrArg (fun (z : Int32) => z) eF).symm dX2_deathSumFor_51
def F_X2_chargeFor (q : S3) (x : Int32) (m : Int32) : Int32 :=
  (500 + (((if 0 < ((F_X2_deathSumFor q x m) - x) then ((F_X2_deathSumFor q x m) - x) else 0).toInt64 * (F_X2_rateFor (F_X2_ageIn q m)).toInt64) / 100000)).toInt32
set_option maxRecDepth 100000 in
theorem k_X2_chargeFor_m39 : Cond.methodLink RX2 39 Lib.Math.max.name ∈ wsX2_chargeFor := by decide +kernel
set_option maxRecDepth 100000 in
theorem k_X2_chargeFor_ms39 : Cond.static Lib.Math.max.name ∈ wsX2_chargeFor := by decide +kernel
set_option maxRecDepth 100000 in
theorem k_X2_chargeFor_mi : Cond.initialized "java/lang/Math" ∈ wsX2_chargeFor := by decide +kernel
set_option maxRecDepth 100000 in
theorem k_X2_chargeFor_mc39 : Cond.code Lib.Math.max.name Lib.Math.max.code 2 (some .int) ∈ wsX2_chargeFor := by decide +kernel
set_option maxRecDepth 100000 in
theorem k_X2_chargeFor_c41 : Cond.constantLong RX2 41 (500) ∈ wsX2_chargeFor := by decide +kernel
set_option maxRecDepth 100000 in
theorem k_X2_chargeFor_c46 : Cond.constantLong RX2 46 (100000) ∈ wsX2_chargeFor := by decide +kernel
theorem nd_X2_chargeFor : yX2_chargeFor.cls = RX2 ∧ yX2_chargeFor.cls ≠ "java/lang/invoke/MethodHandle" ∧ yX2_chargeFor.cls ≠ "java/lang/invoke/VarHandle" ∧ (parseMethodDescriptor yX2_chargeFor.desc).map (fun d => d.parameters.length) = some 2 := by decide +kernel
abbrev rm_X2_chargeFor : Room := { frames := 2, cells := 0, slots := 0, locals := 49 }
set_option maxHeartbeats 4000000 in
set_option maxRecDepth 100000 in
theorem c_X2_chargeFor (l : Launch) (G : GG) (a : Nat) (q : S3) (x : Int32) (m : Int32) : CI l G yX2_chargeFor wsX2_chargeFor rm_X2_chargeFor [.ref a, .int x, .int m] [cP a q] (F_X2_chargeFor q x m) [cP a q] := by
  refine CI_of (own := RX2) (by decide +kernel) rfl rfl (Nat.le_of_ble_eq_true rfl) ?_
  intro pP eE sS mM args below meth cC A S hK hr hlk hmn hW ls hl
  have hx := S.1
  have hb := S.2.1
  have hl : lv_has ls 5 [(0, .ref a), (1, .int x), (2, .int m)] := hl
  have hW : Wd G A sS.heap [cP a q] sS.heap [] := hW
  refine lv_iconst (v := 0) hx hb dX2_chargeFor_0 (by decide) ?_
  refine lv_aload_n hx hb dX2_chargeFor_1 rfl (lv_at hl 0 rfl) ?_
  refine lv_iload_n hx hb dX2_chargeFor_2 rfl (lv_at hl 1 rfl) ?_
  refine lv_iload_n hx hb dX2_chargeFor_3 rfl (lv_at hl 2 rfl) ?_
  refine k_callVi (C := RX2) (As := [.int x, .int m]) (rest := [.int 0]) (wr := []) (c_X2_deathSumFor l G a q x m) S hK hW gX2_chargeFor_X2_deathSumFor rfl ⟨rfl, rfl⟩ nd_X2_deathSumFor ⟨rfl, rfl⟩ (qb := 0) (ci := 2) rfl rfl [0] [] rfl rfl rfl rfl (by decide) rfl hl.1 rfl dX2_chargeFor_4 ⟨Nat.zero_le _, Nat.zero_le _⟩ (fun H locs hW => ?_)
  have hW : Wd G A sS.heap [cP a q] H locs := hW
  refine lv_iload_n hx hb dX2_chargeFor_7 rfl (lv_at hl 1 rfl) ?_
  refine lv_isub hx hb dX2_chargeFor_8 ?_
  refine k_max S k_X2_chargeFor_m39 k_X2_chargeFor_ms39 k_X2_chargeFor_mi k_X2_chargeFor_mc39 hl.1 rfl rfl ⟨Nat.zero_le _, Nat.zero_le _⟩ dX2_chargeFor_9 ?_
  refine lv_i2l hx hb dX2_chargeFor_12 rfl ?_
  refine lv_lstore_n (lv' := [(3, .long ((if 0 < ((F_X2_deathSumFor q x m) - x) then ((F_X2_deathSumFor q x m) - x) else 0).toInt64)), (0, .ref a), (1, .int x), (2, .int m)]) hx hb dX2_chargeFor_13 rfl hl (by decide) rfl (fun ls hl => ?_)
  refine k_ldc2 S k_X2_chargeFor_c41 dX2_chargeFor_14 ?_
  refine lv_lload_n hx hb dX2_chargeFor_17 rfl (lv_at hl 0 rfl) ?_
  refine lv_aload_n hx hb dX2_chargeFor_18 rfl (lv_at hl 1 rfl) ?_
  refine lv_aload_n hx hb dX2_chargeFor_19 rfl (lv_at hl 1 rfl) ?_
  refine lv_iload_n hx hb dX2_chargeFor_20 rfl (lv_at hl 3 rfl) ?_
  refine k_callVi (C := RX2) (As := [.int m]) (rest := [.ref a, .long ((if 0 < ((F_X2_deathSumFor q x m) - x) then ((F_X2_deathSumFor q x m) - x) else 0).toInt64), .long 500]) (wr := []) (c_X2_ageIn l G a q m) S hK hW gX2_chargeFor_X2_ageIn rfl ⟨rfl, rfl⟩ nd_X2_ageIn ⟨rfl, rfl⟩ (qb := 0) (ci := 2) rfl rfl [0] [] rfl rfl rfl rfl (by decide) rfl hl.1 rfl dX2_chargeFor_21 ⟨Nat.zero_le _, Nat.zero_le _⟩ (fun H locs hW => ?_)
  have hW : Wd G A sS.heap [cP a q] H locs := hW
  refine k_callVi (C := RX2) (As := [.int (F_X2_ageIn q m)]) (rest := [.long ((if 0 < ((F_X2_deathSumFor q x m) - x) then ((F_X2_deathSumFor q x m) - x) else 0).toInt64), .long 500]) (wr := []) (c_X2_rateFor l G a q (F_X2_ageIn q m)) S hK hW gX2_chargeFor_X2_rateFor rfl ⟨rfl, rfl⟩ nd_X2_rateFor ⟨rfl, rfl⟩ (qb := 0) (ci := 2) rfl rfl [0] [] rfl rfl rfl rfl (by decide) rfl hl.1 rfl dX2_chargeFor_24 ⟨Nat.zero_le _, Nat.zero_le _⟩ (fun H locs hW => ?_)
  have hW : Wd G A sS.heap [cP a q] H locs := hW
  refine lv_i2l hx hb dX2_chargeFor_27 rfl ?_
  refine lv_lmul hx hb dX2_chargeFor_28 ?_
  refine k_ldc2 S k_X2_chargeFor_c46 dX2_chargeFor_29 ?_
  refine lv_ldiv hx hb dX2_chargeFor_32 (by decide) ?_
  refine lv_ladd hx hb dX2_chargeFor_33 ?_
  refine lv_l2i hx hb dX2_chargeFor_34 rfl ?_
  have eF : (F_X2_chargeFor q x m) = (500 + (((if 0 < ((F_X2_deathSumFor q x m) - x) then ((F_X2_deathSumFor q x m) - x) else 0).toInt64 * (F_X2_rateFor (F_X2_ageIn q m)).toInt64) / 100000)).toInt32 := by
    rfl
  exact k_iret (wf := [cP a q]) S hr hlk hK hW [0] rfl rfl rfl (congrArg (fun (z : Int32) => z) eF).symm dX2_chargeFor_35
