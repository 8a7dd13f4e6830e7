def F_X5_isMonth (ka : Int32) (kb : Int32) (kc : Int32) (v : S7) (mo : (Nat → Int32)) (ki : (Nat → Int32)) (am : (Nat → Int32)) (sk : (Nat → Bool)) (dn : (Nat → Bool)) (x : Int32) (np : Nat) (n : Nat) : Bool × S7 × Int32 × (Nat → Bool) :=
  if bI (F_X5_in x 0 (nI np)) = 0 then (false, v, 1, dn)
  else (true, ((F_X5_goTo ka kb kc mo ki am sk dn n x.toNatClampNeg).1), 0, (F_X5_goTo ka kb kc mo ki am sk dn n x.toNatClampNeg).2)
set_option maxRecDepth 100000 in
theorem k_X5_isMonth_f122 : Cond.fieldLink RX5 122 "FlexiblePolicyModel" "now" "I" ∈ wsX5_isMonth := by decide +kernel
set_option maxRecDepth 100000 in
theorem k_X5_isMonth_in5 : ∀ w ∈ u_ws RX5 TX5 18, w ∈ wsX5_isMonth := by decide +kernel
set_option maxRecDepth 100000 in
theorem k_X5_isMonth_f34 : Cond.fieldLink RX5 34 "FlexiblePolicyModel" "thrown" "I" ∈ wsX5_isMonth := by decide +kernel
theorem nd_X5_isMonth : yX5_isMonth.cls = RX5 ∧ yX5_isMonth.cls ≠ "java/lang/invoke/MethodHandle" ∧ yX5_isMonth.cls ≠ "java/lang/invoke/VarHandle" ∧ (parseMethodDescriptor yX5_isMonth.desc).map (fun d => d.parameters.length) = some 1 := by decide +kernel
abbrev rm_X5_isMonth : Room := { frames := 5, cells := 0, slots := 0, locals := 116 }
set_option maxHeartbeats 4000000 in
set_option maxRecDepth 100000 in
theorem c_X5_isMonth (l : Launch) (G : GG) (h : Nat → Nat) (ka : Int32) (kb : Int32) (kc : Int32) (v : S7) (t : Int32) (mo : (Nat → Int32)) (ki : (Nat → Int32)) (am : (Nat → Int32)) (sk : (Nat → Bool)) (dn : (Nat → Bool)) (x : Int32) (np : Nat) (n : Nat) (hn : n ≤ 60) (hp : np ≤ 120) : CI l G yX5_isMonth wsX5_isMonth rm_X5_isMonth [.ref (h 18), .int x] [cM h (ka, kb, kc, (nI np), (nI n)) v t, aI G (h 19) 60 mo, aI G (h 20) 60 ki, aI G (h 21) 60 am, aZ G (h 22) 60 sk, aZ G (h 23) 60 dn] (bI ((F_X5_isMonth ka kb kc v mo ki am sk dn x np n).1)) [cM h (ka, kb, kc, (nI np), (nI n)) ((F_X5_isMonth ka kb kc v mo ki am sk dn x np n).2.1) ((F_X5_isMonth ka kb kc v mo ki am sk dn x np n).2.2.1), aI G (h 19) 60 mo, aI G (h 20) 60 ki, aI G (h 21) 60 am, aZ G (h 22) 60 sk, aZ G (h 23) 60 ((F_X5_isMonth ka kb kc v mo ki am sk dn x np n).2.2.2)] := by
  refine CI_of (own := RX5) (by decide +kernel) rfl rfl (Nat.le_of_ble_eq_true rfl) ?_
  intro pP eE sS mM args below meth cC A S hK hr hlk hmn hW ls hl
  have hx := S.1
  have hb := S.2.1
  have hl : lv_has ls 2 [(0, .ref (h 18)), (1, .int x)] := hl
  have hW : Wd G A sS.heap [cM h (ka, kb, kc, (nI np), (nI n)) v t, aI G (h 19) 60 mo, aI G (h 20) 60 ki, aI G (h 21) 60 am, aZ G (h 22) 60 sk, aZ G (h 23) 60 dn] sS.heap [] := hW
  refine lv_aload_n hx hb dX5_isMonth_0 rfl (lv_at hl 0 rfl) ?_
  refine lv_iload_n hx hb dX5_isMonth_1 rfl (lv_at hl 1 rfl) ?_
  refine lv_iconst (v := 0) hx hb dX5_isMonth_2 (by decide) ?_
  refine lv_aload_n hx hb dX5_isMonth_3 rfl (lv_at hl 0 rfl) ?_
  refine k_get (C := RX5) (T := TX5) (N := 18) (ci := 5) (v := .int (nI np)) S hK hW k_X5_isMonth_in5 0 3 rfl rfl (by decide) k_X5_isMonth_f122 rfl dX5_isMonth_4 ?_
  refine k_callSi (As := [.int x, .int 0, .int (nI np)]) (rest := [.ref (h 18)]) (wr := [cM h (ka, kb, kc, (nI np), (nI n)) v t, aI G (h 19) 60 mo, aI G (h 20) 60 ki, aI G (h 21) 60 am, aZ G (h 22) 60 sk, aZ G (h 23) 60 dn]) (c_X5_in l G x 0 (nI np)) S hK hW gX5_isMonth_X5_in rfl ⟨rfl, rfl⟩ nd_X5_in ⟨rfl, rfl⟩ [] [0, 1, 2, 3, 4, 5] rfl rfl rfl rfl (by decide) rfl hl.1 rfl dX5_isMonth_7 ⟨Nat.zero_le _, Nat.zero_le _⟩ (fun H locs hW => ?_)
  have hW : Wd G A sS.heap [cM h (ka, kb, kc, (nI np), (nI n)) v t, aI G (h 19) 60 mo, aI G (h 20) 60 ki, aI G (h 21) 60 am, aZ G (h 22) 60 sk, aZ G (h 23) 60 dn] H locs := hW
  refine lv_if_eq (tgt := 17) hx hb dX5_isMonth_10 (by decide) (fun c_1 => ?_) (fun c_1 => ?_)
  ·
    refine lv_iconst (v := 1) hx hb dX5_isMonth_17 (by decide) ?_
    refine k_put (C := RX5) (T := TX5) (N := 18) (ci := 5) (v := .int 1) (ws' := [cM h (ka, kb, kc, (nI np), (nI n)) v 1, aI G (h 19) 60 mo, aI G (h 20) 60 ki, aI G (h 21) 60 am, aZ G (h 22) 60 sk, aZ G (h 23) 60 dn]) S hK hW k_X5_isMonth_in5 tyX5_ok nmX5 0 17 rfl rfl (by decide) k_X5_isMonth_f34 rfl rfl rfl rfl rfl dX5_isMonth_18 (fun H locs hW => ?_)
    refine lv_aload_n hx hb dX5_isMonth_21 rfl (lv_at hl 0 rfl) ?_
    refine k_get (C := RX5) (T := TX5) (N := 18) (ci := 5) (v := .int 1) S hK hW k_X5_isMonth_in5 0 17 rfl rfl (by decide) k_X5_isMonth_f34 rfl dX5_isMonth_22 ?_
    refine lv_if_ne (tgt := 33) hx hb dX5_isMonth_25 (by decide) (fun c_2 => ?_) (fun c_2 => ?_)
    ·
      refine lv_aload_n hx hb dX5_isMonth_33 rfl (lv_at hl 0 rfl) ?_
      refine k_get (C := RX5) (T := TX5) (N := 18) (ci := 5) (v := .int 1) S hK hW k_X5_isMonth_in5 0 17 rfl rfl (by decide) k_X5_isMonth_f34 rfl dX5_isMonth_34 ?_
      refine lv_if_ne (tgt := 44) hx hb dX5_isMonth_37 (by decide) (fun c_3 => ?_) (fun c_3 => ?_)
      ·
        refine lv_iconst (v := 0) hx hb dX5_isMonth_44 (by decide) ?_
        have eF : (F_X5_isMonth ka kb kc v mo ki am sk dn x np n) = (false, v, 1, dn) := by
          unfold F_X5_isMonth
          rw [if_pos c_1]
        exact k_zret (wf := [cM h (ka, kb, kc, (nI np), (nI n)) v 1, aI G (h 19) 60 mo, aI G (h 20) 60 ki, aI G (h 21) 60 am, aZ G (h 22) 60 sk, aZ G (h 23) 60 dn]) S hr hlk hK hW [0, 1, 2, 3, 4, 5] rfl rfl (congrArg (fun (z : Bool × S7 × Int32 × (Nat → Bool)) => [cM h (ka, kb, kc, (nI np), (nI n)) z.2.1 z.2.2.1, aI G (h 19) 60 mo, aI G (h 20) 60 ki, aI G (h 21) 60 am, aZ G (h 22) 60 sk, aZ G (h 23) 60 z.2.2.2]) eF).symm (congrArg (fun (z : Bool × S7 × Int32 × (Nat → Bool)) => bI z.1) eF).symm dX5_isMonth_45
      ·
        exact absurd c_3 (by decide)
    ·
      exact absurd c_2 (by decide)
  ·
    refine lv_iconst (v := 0) hx hb dX5_isMonth_13 (by decide) ?_
    refine lv_goto (tgt := 18) hx hb dX5_isMonth_14 (by decide) ?_
    refine k_put (C := RX5) (T := TX5) (N := 18) (ci := 5) (v := .int 0) (ws' := [cM h (ka, kb, kc, (nI np), (nI n)) v 0, aI G (h 19) 60 mo, aI G (h 20) 60 ki, aI G (h 21) 60 am, aZ G (h 22) 60 sk, aZ G (h 23) 60 dn]) S hK hW k_X5_isMonth_in5 tyX5_ok nmX5 0 17 rfl rfl (by decide) k_X5_isMonth_f34 rfl rfl rfl rfl rfl dX5_isMonth_18 (fun H locs hW => ?_)
    refine lv_aload_n hx hb dX5_isMonth_21 rfl (lv_at hl 0 rfl) ?_
    refine k_get (C := RX5) (T := TX5) (N := 18) (ci := 5) (v := .int 0) S hK hW k_X5_isMonth_in5 0 17 rfl rfl (by decide) k_X5_isMonth_f34 rfl dX5_isMonth_22 ?_
    refine lv_if_ne (tgt := 33) hx hb dX5_isMonth_25 (by decide) (fun c_4 => ?_) (fun c_4 => ?_)
    ·
      exact absurd c_4 (by decide)
    ·
      refine lv_aload_n hx hb dX5_isMonth_28 rfl (lv_at hl 0 rfl) ?_
      refine lv_iload_n hx hb dX5_isMonth_29 rfl (lv_at hl 1 rfl) ?_
      have hz30 : x = nI x.toNatClampNeg := cl_of (in5 c_1).1
      have hy30 : x.toNatClampNeg ≤ np := cl_le (by omega) (in5 c_1).1 (in5 c_1).2
      refine W.eq (g2 := F0 mM 30 ls [.int (nI x.toNatClampNeg), .ref (h 18)]) (by rw [← hz30]) ?_
      refine k_callVv (C := RX5) (As := [.int (nI x.toNatClampNeg)]) (rest := []) (wr := []) (c_X5_goTo l G h ka kb kc (nI np) v 0 mo ki am sk dn n x.toNatClampNeg (by omega) (by omega)) S hK hW gX5_isMonth_X5_goTo rfl ⟨rfl, rfl⟩ nd_X5_goTo ⟨rfl, rfl⟩ (qb := 0) (ci := 5) rfl rfl [0, 1, 2, 3, 4, 5] [] rfl rfl rfl rfl (by decide) rfl hl.1 rfl dX5_isMonth_30 ⟨Nat.zero_le _, Nat.zero_le _⟩ (fun H locs hW => ?_)
      have hW : Wd G A sS.heap [cM h (ka, kb, kc, (nI np), (nI n)) ((F_X5_goTo ka kb kc mo ki am sk dn n x.toNatClampNeg).1) 0, aI G (h 19) 60 mo, aI G (h 20) 60 ki, aI G (h 21) 60 am, aZ G (h 22) 60 sk, aZ G (h 23) 60 ((F_X5_goTo ka kb kc mo ki am sk dn n x.toNatClampNeg).2)] H locs := hW
      refine lv_aload_n hx hb dX5_isMonth_33 rfl (lv_at hl 0 rfl) ?_
      refine k_get (C := RX5) (T := TX5) (N := 18) (ci := 5) (v := .int 0) S hK hW k_X5_isMonth_in5 0 17 rfl rfl (by decide) k_X5_isMonth_f34 rfl dX5_isMonth_34 ?_
      refine lv_if_ne (tgt := 44) hx hb dX5_isMonth_37 (by decide) (fun c_5 => ?_) (fun c_5 => ?_)
      ·
        exact absurd c_5 (by decide)
      ·
        refine lv_iconst (v := 1) hx hb dX5_isMonth_40 (by decide) ?_
        refine lv_goto (tgt := 45) hx hb dX5_isMonth_41 (by decide) ?_
        have eF : (F_X5_isMonth ka kb kc v mo ki am sk dn x np n) = (true, ((F_X5_goTo ka kb kc mo ki am sk dn n x.toNatClampNeg).1), 0, (F_X5_goTo ka kb kc mo ki am sk dn n x.toNatClampNeg).2) := by
          unfold F_X5_isMonth
          rw [if_neg c_1]
        exact k_zret (wf := [cM h (ka, kb, kc, (nI np), (nI n)) ((F_X5_goTo ka kb kc mo ki am sk dn n x.toNatClampNeg).1) 0, aI G (h 19) 60 mo, aI G (h 20) 60 ki, aI G (h 21) 60 am, aZ G (h 22) 60 sk, aZ G (h 23) 60 ((F_X5_goTo ka kb kc mo ki am sk dn n x.toNatClampNeg).2)]) S hr hlk hK hW [0, 1, 2, 3, 4, 5] rfl rfl (congrArg (fun (z : Bool × S7 × Int32 × (Nat → Bool)) => [cM h (ka, kb, kc, (nI np), (nI n)) z.2.1 z.2.2.1, aI G (h 19) 60 mo, aI G (h 20) 60 ki, aI G (h 21) 60 am, aZ G (h 22) 60 sk, aZ G (h 23) 60 z.2.2.2]) eF).symm (congrArg (fun (z : Bool × S7 × Int32 × (Nat → Bool)) => bI z.1) eF).symm dX5_isMonth_45
def F_X5_accountAt (ka : Int32) (kb : Int32) (kc : Int32) (v : S7) (mo : (Nat → Int32)) (ki : (Nat → Int32)) (am : (Nat → Int32)) (sk : (Nat → Bool)) (dn : (Nat → Bool)) (x : Int32) (np : Nat) (n : Nat) : Int32 × S7 × Int32 × (Nat → Bool) :=
  if bI ((F_X5_isMonth ka kb kc v mo ki am sk dn x np n).1) = 0 then (0, ((F_X5_isMonth ka kb kc v mo ki am sk dn x np n).2.1), (F_X5_isMonth ka kb kc v mo ki am sk dn x np n).2.2.1, (F_X5_isMonth ka kb kc v mo ki am sk dn x np n).2.2.2)
  else (((F_X5_isMonth ka kb kc v mo ki am sk dn x np n).2.1).2.1, ((F_X5_isMonth ka kb kc v mo ki am sk dn x np n).2.1), (F_X5_isMonth ka kb kc v mo ki am sk dn x np n).2.2.1, (F_X5_isMonth ka kb kc v mo ki am sk dn x np n).2.2.2)
set_option maxRecDepth 100000 in
theorem k_X5_accountAt_f40 : Cond.fieldLink RX5 40 "FlexiblePolicyModel" "account" "I" ∈ wsX5_accountAt := by decide +kernel
set_option maxRecDepth 100000 in
theorem k_X5_accountAt_in5 : ∀ w ∈ u_ws RX5 TX5 18, w ∈ wsX5_accountAt := by decide +kernel
theorem nd_X5_accountAt : yX5_accountAt.cls = RX5 ∧ yX5_accountAt.cls ≠ "java/lang/invoke/MethodHandle" ∧ yX5_accountAt.cls ≠ "java/lang/invoke/VarHandle" ∧ (parseMethodDescriptor yX5_accountAt.desc).map (fun d => d.parameters.length) = some 1 := by decide +kernel
abbrev rm_X5_accountAt : Room := { frames := 6, cells := 0, slots := 0, locals := 137 }
set_option maxHeartbeats 4000000 in
set_option maxRecDepth 100000 in
theorem c_X5_accountAt (l : Launch) (G : GG) (h : Nat → Nat) (ka : Int32) (kb : Int32) (kc : Int32) (v : S7) (t : Int32) (mo : (Nat → Int32)) (ki : (Nat → Int32)) (am : (Nat → Int32)) (sk : (Nat → Bool)) (dn : (Nat → Bool)) (x : Int32) (np : Nat) (n : Nat) (hn : n ≤ 60) (hp : np ≤ 120) : CI l G yX5_accountAt wsX5_accountAt rm_X5_accountAt [.ref (h 18), .int x] [cM h (ka, kb, kc, (nI np), (nI n)) v t, aI G (h 19) 60 mo, aI G (h 20) 60 ki, aI G (h 21) 60 am, aZ G (h 22) 60 sk, aZ G (h 23) 60 dn] ((F_X5_accountAt ka kb kc v mo ki am sk dn x np n).1) [cM h (ka, kb, kc, (nI np), (nI n)) ((F_X5_accountAt ka kb kc v mo ki am sk dn x np n).2.1) ((F_X5_accountAt ka kb kc v mo ki am sk dn x np n).2.2.1), aI G (h 19) 60 mo, aI G (h 20) 60 ki, aI G (h 21) 60 am, aZ G (h 22) 60 sk, aZ G (h 23) 60 ((F_X5_accountAt ka kb kc v mo ki am sk dn x np n).2.2.2)] := by
  refine CI_of (own := RX5) (by decide +kernel) rfl rfl (Nat.le_of_ble_eq_true rfl) ?_
  intro pP eE sS mM args below meth cC A S hK hr hlk hmn hW ls hl
  have hx := S.1
  have hb := S.2.1
  have hl : lv_has ls 2 [(0, .ref (h 18)), (1, .int x)] := hl
  have hW : Wd G A sS.heap [cM h (ka, kb, kc, (nI np), (nI n)) v t, aI G (h 19) 60 mo, aI G (h 20) 60 ki, aI G (h 21) 60 am, aZ G (h 22) 60 sk, aZ G (h 23) 60 dn] sS.heap [] := hW
  refine lv_aload_n hx hb dX5_accountAt_0 rfl (lv_at hl 0 rfl) ?_
  refine lv_iload_n hx hb dX5_accountAt_1 rfl (lv_at hl 1 rfl) ?_
  refine k_callVi (C := RX5) (As := [.int x]) (rest := []) (wr := []) (c_X5_isMonth l G h ka kb kc v t mo ki am sk dn x np n (by omega) (by omega)) S hK hW gX5_accountAt_X5_isMonth rfl ⟨rfl, rfl⟩ nd_X5_isMonth ⟨rfl, rfl⟩ (qb := 0) (ci := 5) rfl rfl [0, 1, 2, 3, 4, 5] [] rfl rfl rfl rfl (by decide) rfl hl.1 rfl dX5_accountAt_2 ⟨Nat.zero_le _, Nat.zero_le _⟩ (fun H locs hW => ?_)
  have hW : Wd G A sS.heap [cM h (ka, kb, kc, (nI np), (nI n)) ((F_X5_isMonth ka kb kc v mo ki am sk dn x np n).2.1) ((F_X5_isMonth ka kb kc v mo ki am sk dn x np n).2.2.1), aI G (h 19) 60 mo, aI G (h 20) 60 ki, aI G (h 21) 60 am, aZ G (h 22) 60 sk, aZ G (h 23) 60 ((F_X5_isMonth ka kb kc v mo ki am sk dn x np n).2.2.2)] H locs := hW
  refine lv_if_eq (tgt := 15) hx hb dX5_accountAt_5 (by decide) (fun c_1 => ?_) (fun c_1 => ?_)
  ·
    refine lv_iconst (v := 0) hx hb dX5_accountAt_15 (by decide) ?_
    have eF : (F_X5_accountAt ka kb kc v mo ki am sk dn x np n) = (0, ((F_X5_isMonth ka kb kc v mo ki am sk dn x np n).2.1), (F_X5_isMonth ka kb kc v mo ki am sk dn x np n).2.2.1, (F_X5_isMonth ka kb kc v mo ki am sk dn x np n).2.2.2) := by
      unfold F_X5_accountAt
      rw [if_pos c_1]
    exact k_iret (wf := [cM h (ka, kb, kc, (nI np), (nI n)) ((F_X5_isMonth ka kb kc v mo ki am sk dn x np n).2.1) ((F_X5_isMonth ka kb kc v mo ki am sk dn x np n).2.2.1), aI G (h 19) 60 mo, aI G (h 20) 60 ki, aI G (h 21) 60 am, aZ G (h 22) 60 sk, aZ G (h 23) 60 ((F_X5_isMonth ka kb kc v mo ki am sk dn x np n).2.2.2)]) S hr hlk hK hW [0, 1, 2, 3, 4, 5] rfl rfl (congrArg (fun (z : Int32 × S7 × Int32 × (Nat → Bool)) => [cM h (ka, kb, kc, (nI np), (nI n)) z.2.1 z.2.2.1, aI G (h 19) 60 mo, aI G (h 20) 60 ki, aI G (h 21) 60 am, aZ G (h 22) 60 sk, aZ G (h 23) 60 z.2.2.2]) eF).symm (congrArg (fun (z : Int32 × S7 × Int32 × (Nat → Bool)) => z.1) eF).symm dX5_accountAt_16
  ·
    refine lv_aload_n hx hb dX5_accountAt_8 rfl (lv_at hl 0 rfl) ?_
    refine k_get (C := RX5) (T := TX5) (N := 18) (ci := 5) (v := .int (((F_X5_isMonth ka kb kc v mo ki am sk dn x np n).2.1).2.1)) S hK hW k_X5_accountAt_in5 0 11 rfl rfl (by decide) k_X5_accountAt_f40 rfl dX5_accountAt_9 ?_
    refine lv_goto (tgt := 16) hx hb dX5_accountAt_12 (by decide) ?_
    have eF : (F_X5_accountAt ka kb kc v mo ki am sk dn x np n) = (((F_X5_isMonth ka kb kc v mo ki am sk dn x np n).2.1).2.1, ((F_X5_isMonth ka kb kc v mo ki am sk dn x np n).2.1), (F_X5_isMonth ka kb kc v mo ki am sk dn x np n).2.2.1, (F_X5_isMonth ka kb kc v mo ki am sk dn x np n).2.2.2) := by
      unfold F_X5_accountAt
      rw [if_neg c_1]
    exact k_iret (wf := [cM h (ka, kb, kc, (nI np), (nI n)) ((F_X5_isMonth ka kb kc v mo ki am sk dn x np n).2.1) ((F_X5_isMonth ka kb kc v mo ki am sk dn x np n).2.2.1), aI G (h 19) 60 mo, aI G (h 20) 60 ki, aI G (h 21) 60 am, aZ G (h 22) 60 sk, aZ G (h 23) 60 ((F_X5_isMonth ka kb kc v mo ki am sk dn x np n).2.2.2)]) S hr hlk hK hW [0, 1, 2, 3, 4, 5] rfl rfl (congrArg (fun (z : Int32 × S7 × Int32 × (Nat → Bool)) => [cM h (ka, kb, kc, (nI np), (nI n)) z.2.1 z.2.2.1, aI G (h 19) 60 mo, aI G (h 20) 60 ki, aI G (h 21) 60 am, aZ G (h 22) 60 sk, aZ G (h 23) 60 z.2.2.2]) eF).symm (congrArg (fun (z : Int32 × S7 × Int32 × (Nat → Bool)) => z.1) eF).symm dX5_accountAt_16
def F_X5_accountFromStart (ka : Int32) (kb : Int32) (kc : Int32) (v : S7) (mo : (Nat → Int32)) (ki : (Nat → Int32)) (am : (Nat → Int32)) (sk : (Nat → Bool)) (dn : (Nat → Bool)) (x : Int32) (np : Nat) (n : Nat) : Int32 × S7 × Int32 × (Nat → Bool) :=
  if bI ((F_X5_isMonth ka kb kc v mo ki am sk dn x np n).1) = 0 then (0, ((F_X5_isMonth ka kb kc v mo ki am sk dn x np n).2.1), (F_X5_isMonth ka kb kc v mo ki am sk dn x np n).2.2.1, (F_X5_isMonth ka kb kc v mo ki am sk dn x np n).2.2.2)
  else (((F_X5_isMonth ka kb kc v mo ki am sk dn x np n).2.1).2.1, ((F_X5_isMonth ka kb kc v mo ki am sk dn x np n).2.1), (F_X5_isMonth ka kb kc v mo ki am sk dn x np n).2.2.1, (F_X5_isMonth ka kb kc v mo ki am sk dn x np n).2.2.2)
set_option maxRecDepth 100000 in
theorem k_X5_accountFromStart_f40 : Cond.fieldLink RX5 40 "FlexiblePolicyModel" "account" "I" ∈ wsX5_accountFromStart := by decide +kernel
set_option maxRecDepth 100000 in
theorem k_X5_accountFromStart_in5 : ∀ w ∈ u_ws RX5 TX5 18, w ∈ wsX5_accountFromStart := by decide +kernel
theorem nd_X5_accountFromStart : yX5_accountFromStart.cls = RX5 ∧ yX5_accountFromStart.cls ≠ "java/lang/invoke/MethodHandle" ∧ yX5_accountFromStart.cls ≠ "java/lang/invoke/VarHandle" ∧ (parseMethodDescriptor yX5_accountFromStart.desc).map (fun d => d.parameters.length) = some 1 := by decide +kernel
abbrev rm_X5_accountFromStart : Room := { frames := 6, cells := 0, slots := 0, locals := 137 }
set_option maxHeartbeats 4000000 in
set_option maxRecDepth 100000 in
theorem c_X5_accountFromStart (l : Launch) (G : GG) (h : Nat → Nat) (ka : Int32) (kb : Int32) (kc : Int32) (v : S7) (t : Int32) (mo : (Nat → Int32)) (ki : (Nat → Int32)) (am : (Nat → Int32)) (sk : (Nat → Bool)) (dn : (Nat → Bool)) (x : Int32) (np : Nat) (n : Nat) (hn : n ≤ 60) (hp : np ≤ 120) : CI l G yX5_accountFromStart wsX5_accountFromStart rm_X5_accountFromStart [.ref (h 18), .int x] [cM h (ka, kb, kc, (nI np), (nI n)) v t, aI G (h 19) 60 mo, aI G (h 20) 60 ki, aI G (h 21) 60 am, aZ G (h 22) 60 sk, aZ G (h 23) 60 dn] ((F_X5_accountFromStart ka kb kc v mo ki am sk dn x np n).1) [cM h (ka, kb, kc, (nI np), (nI n)) ((F_X5_accountFromStart ka kb kc v mo ki am sk dn x np n).2.1) ((F_X5_accountFromStart ka kb kc v mo ki am sk dn x np n).2.2.1), aI G (h 19) 60 mo, aI G (h 20) 60 ki, aI G (h 21) 60 am, aZ G (h 22) 60 sk, aZ G (h 23) 60 ((F_X5_accountFromStart ka kb kc v mo ki am sk dn x np n).2.2.2)] := by
  refine CI_of (own := RX5) (by decide +kernel) rfl rfl (Nat.le_of_ble_eq_true rfl) ?_
  intro pP eE sS mM args below meth cC A S hK hr hlk hmn hW ls hl
  have hx := S.1
  have hb := S.2.1
  have hl : lv_has ls 2 [(0, .ref (h 18)), (1, .int x)] := hl
  have hW : Wd G A sS.heap [cM h (ka, kb, kc, (nI np), (nI n)) v t, aI G (h 19) 60 mo, aI G (h 20) 60 ki, aI G (h 21) 60 am, aZ G (h 22) 60 sk, aZ G (h 23) 60 dn] sS.heap [] := hW
  refine lv_aload_n hx hb dX5_accountFromStart_0 rfl (lv_at hl 0 rfl) ?_
  refine lv_iload_n hx hb dX5_accountFromStart_1 rfl (lv_at hl 1 rfl) ?_
  refine k_callVi (C := RX5) (As := [.int x]) (rest := []) (wr := []) (c_X5_isMonth l G h ka kb kc v t mo ki am sk dn x np n (by omega) (by omega)) S hK hW gX5_accountFromStart_X5_isMonth rfl ⟨rfl, rfl⟩ nd_X5_isMonth ⟨rfl, rfl⟩ (qb := 0) (ci := 5) rfl rfl [0, 1, 2, 3, 4, 5] [] rfl rfl rfl rfl (by decide) rfl hl.1 rfl dX5_accountFromStart_2 ⟨Nat.zero_le _, Nat.zero_le _⟩ (fun H locs hW => ?_)
  have hW : Wd G A sS.heap [cM h (ka, kb, kc, (nI np), (nI n)) ((F_X5_isMonth ka kb kc v mo ki am sk dn x np n).2.1) ((F_X5_isMonth ka kb kc v mo ki am sk dn x np n).2.2.1), aI G (h 19) 60 mo, aI G (h 20) 60 ki, aI G (h 21) 60 am, aZ G (h 22) 60 sk, aZ G (h 23) 60 ((F_X5_isMonth ka kb kc v mo ki am sk dn x np n).2.2.2)] H locs := hW
  refine lv_if_eq (tgt := 15) hx hb dX5_accountFromStart_5 (by decide) (fun c_1 => ?_) (fun c_1 => ?_)
  ·
    refine lv_iconst (v := 0) hx hb dX5_accountFromStart_15 (by decide) ?_
    have eF : (F_X5_accountFromStart ka kb kc v mo ki am sk dn x np n) = (0, ((F_X5_isMonth ka kb kc v mo ki am sk dn x np n).2.1), (F_X5_isMonth ka kb kc v mo ki am sk dn x np n).2.2.1, (F_X5_isMonth ka kb kc v mo ki am sk dn x np n).2.2.2) := by
      unfold F_X5_accountFromStart
      rw [if_pos c_1]
    exact k_iret (wf := [cM h (ka, kb, kc, (nI np), (nI n)) ((F_X5_isMonth ka kb kc v mo ki am sk dn x np n).2.1) ((F_X5_isMonth ka kb kc v mo ki am sk dn x np n).2.2.1), aI G (h 19) 60 mo, aI G (h 20) 60 ki, aI G (h 21) 60 am, aZ G (h 22) 60 sk, aZ G (h 23) 60 ((F_X5_isMonth ka kb kc v mo ki am sk dn x np n).2.2.2)]) S hr hlk hK hW [0, 1, 2, 3, 4, 5] rfl rfl (congrArg (fun (z : Int32 × S7 × Int32 × (Nat → Bool)) => [cM h (ka, kb, kc, (nI np), (nI n)) z.2.1 z.2.2.1, aI G (h 19) 60 mo, aI G (h 20) 60 ki, aI G (h 21) 60 am, aZ G (h 22) 60 sk, aZ G (h 23) 60 z.2.2.2]) eF).symm (congrArg (fun (z : Int32 × S7 × Int32 × (Nat → Bool)) => z.1) eF).symm dX5_accountFromStart_16
  ·
    refine lv_aload_n hx hb dX5_accountFromStart_8 rfl (lv_at hl 0 rfl) ?_
    refine k_get (C := RX5) (T := TX5) (N := 18) (ci := 5) (v := .int (((F_X5_isMonth ka kb kc v mo ki am sk dn x np n).2.1).2.1)) S hK hW k_X5_accountFromStart_in5 0 11 rfl rfl (by decide) k_X5_accountFromStart_f40 rfl dX5_accountFromStart_9 ?_
    refine lv_goto (tgt := 16) hx hb dX5_accountFromStart_12 (by decide) ?_
    have eF : (F_X5_accountFromStart ka kb kc v mo ki am sk dn x np n) = (((F_X5_isMonth ka kb kc v mo ki am sk dn x np n).2.1).2.1, ((F_X5_isMonth ka kb kc v mo ki am sk dn x np n).2.1), (F_X5_isMonth ka kb kc v mo ki am sk dn x np n).2.2.1, (F_X5_isMonth ka kb kc v mo ki am sk dn x np n).2.2.2) := by
      unfold F_X5_accountFromStart
      rw [if_neg c_1]
    exact k_iret (wf := [cM h (ka, kb, kc, (nI np), (nI n)) ((F_X5_isMonth ka kb kc v mo ki am sk dn x np n).2.1) ((F_X5_isMonth ka kb kc v mo ki am sk dn x np n).2.2.1), aI G (h 19) 60 mo, aI G (h 20) 60 ki, aI G (h 21) 60 am, aZ G (h 22) 60 sk, aZ G (h 23) 60 ((F_X5_isMonth ka kb kc v mo ki am sk dn x np n).2.2.2)]) S hr hlk hK hW [0, 1, 2, 3, 4, 5] rfl rfl (congrArg (fun (z : Int32 × S7 × Int32 × (Nat → Bool)) => [cM h (ka, kb, kc, (nI np), (nI n)) z.2.1 z.2.2.1, aI G (h 19) 60 mo, aI G (h 20) 60 ki, aI G (h 21) 60 am, aZ G (h 22) 60 sk, aZ G (h 23) 60 z.2.2.2]) eF).symm (congrArg (fun (z : Int32 × S7 × Int32 × (Nat → Bool)) => z.1) eF).symm dX5_accountFromStart_16
def F_X5_stateAt (ka : Int32) (kb : Int32) (kc : Int32) (v : S7) (mo : (Nat → Int32)) (ki : (Nat → Int32)) (am : (Nat → Int32)) (sk : (Nat → Bool)) (dn : (Nat → Bool)) (x : Int32) (np : Nat) (n : Nat) : Int32 × S7 × Int32 × (Nat → Bool) :=
  if bI ((F_X5_isMonth ka kb kc v mo ki am sk dn x np n).1) = 0 then (0, ((F_X5_isMonth ka kb kc v mo ki am sk dn x np n).2.1), (F_X5_isMonth ka kb kc v mo ki am sk dn x np n).2.2.1, (F_X5_isMonth ka kb kc v mo ki am sk dn x np n).2.2.2)
  else (((F_X5_isMonth ka kb kc v mo ki am sk dn x np n).2.1).1, ((F_X5_isMonth ka kb kc v mo ki am sk dn x np n).2.1), (F_X5_isMonth ka kb kc v mo ki am sk dn x np n).2.2.1, (F_X5_isMonth ka kb kc v mo ki am sk dn x np n).2.2.2)
set_option maxRecDepth 100000 in
theorem k_X5_stateAt_f61 : Cond.fieldLink RX5 61 "FlexiblePolicyModel" "state" "I" ∈ wsX5_stateAt := by decide +kernel
set_option maxRecDepth 100000 in
theorem k_X5_stateAt_in5 : ∀ w ∈ u_ws RX5 TX5 18, w ∈ wsX5_stateAt := by decide +kernel
theorem nd_X5_stateAt : yX5_stateAt.cls = RX5 ∧ yX5_stateAt.cls ≠ "java/lang/invoke/MethodHandle" ∧ yX5_stateAt.cls ≠ "java/lang/invoke/VarHandle" ∧ (parseMethodDescriptor yX5_stateAt.desc).map (fun d => d.parameters.length) = some 1 := by decide +kernel
abbrev rm_X5_stateAt : Room := { frames := 6, cells := 0, slots := 0, locals := 137 }
set_option maxHeartbeats 4000000 in
set_option maxRecDepth 100000 in
theorem c_X5_stateAt (l : Launch) (G : GG) (h : Nat → Nat) (ka : Int32) (kb : Int32) (kc : Int32) (v : S7) (t : Int32) (mo : (Nat → Int32)) (ki : (Nat → Int32)) (am : (Nat → Int32)) (sk : (Nat → Bool)) (dn : (Nat → Bool)) (x : Int32) (np : Nat) (n : Nat) (hn : n ≤ 60) (hp : np ≤ 120) : CI l G yX5_stateAt wsX5_stateAt rm_X5_stateAt [.ref (h 18), .int x] [cM h (ka, kb, kc, (nI np), (nI n)) v t, aI G (h 19) 60 mo, aI G (h 20) 60 ki, aI G (h 21) 60 am, aZ G (h 22) 60 sk, aZ G (h 23) 60 dn] ((F_X5_stateAt ka kb kc v mo ki am sk dn x np n).1) [cM h (ka, kb, kc, (nI np), (nI n)) ((F_X5_stateAt ka kb kc v mo ki am sk dn x np n).2.1) ((F_X5_stateAt ka kb kc v mo ki am sk dn x np n).2.2.1), aI G (h 19) 60 mo, aI G (h 20) 60 ki, aI G (h 21) 60 am, aZ G (h 22) 60 sk, aZ G (h 23) 60 ((F_X5_stateAt ka kb kc v mo ki am sk dn x np n).2.2.2)] := by
  refine CI_of (own := RX5) (by decide +kernel) rfl rfl (Nat.le_of_ble_eq_true rfl) ?_
  intro pP eE sS mM args below meth cC A S hK hr hlk hmn hW ls hl
  have hx := S.1
  have hb := S.2.1
  have hl : lv_has ls 2 [(0, .ref (h 18)), (1, .int x)] := hl
  have hW : Wd G A sS.heap [cM h (ka, kb, kc, (nI np), (nI n)) v t, aI G (h 19) 60 mo, aI G (h 20) 60 ki, aI G (h 21) 60 am, aZ G (h 22) 60 sk, aZ G (h 23) 60 dn] sS.heap [] := hW
  refine lv_aload_n hx hb dX5_stateAt_0 rfl (lv_at hl 0 rfl) ?_
  refine lv_iload_n hx hb dX5_stateAt_1 rfl (lv_at hl 1 rfl) ?_
  refine k_callVi (C := RX5) (As := [.int x]) (rest := []) (wr := []) (c_X5_isMonth l G h ka kb kc v t mo ki am sk dn x np n (by omega) (by omega)) S hK hW gX5_stateAt_X5_isMonth rfl ⟨rfl, rfl⟩ nd_X5_isMonth ⟨rfl, rfl⟩ (qb := 0) (ci := 5) rfl rfl [0, 1, 2, 3, 4, 5] [] rfl rfl rfl rfl (by decide) rfl hl.1 rfl dX5_stateAt_2 ⟨Nat.zero_le _, Nat.zero_le _⟩ (fun H locs hW => ?_)
  have hW : Wd G A sS.heap [cM h (ka, kb, kc, (nI np), (nI n)) ((F_X5_isMonth ka kb kc v mo ki am sk dn x np n).2.1) ((F_X5_isMonth ka kb kc v mo ki am sk dn x np n).2.2.1), aI G (h 19) 60 mo, aI G (h 20) 60 ki, aI G (h 21) 60 am, aZ G (h 22) 60 sk, aZ G (h 23) 60 ((F_X5_isMonth ka kb kc v mo ki am sk dn x np n).2.2.2)] H locs := hW
  refine lv_if_eq (tgt := 15) hx hb dX5_stateAt_5 (by decide) (fun c_1 => ?_) (fun c_1 => ?_)
  ·
    refine lv_iconst (v := 0) hx hb dX5_stateAt_15 (by decide) ?_
    have eF : (F_X5_stateAt ka kb kc v mo ki am sk dn x np n) = (0, ((F_X5_isMonth ka kb kc v mo ki am sk dn x np n).2.1), (F_X5_isMonth ka kb kc v mo ki am sk dn x np n).2.2.1, (F_X5_isMonth ka kb kc v mo ki am sk dn x np n).2.2.2) := by
      unfold F_X5_stateAt
      rw [if_pos c_1]
    exact k_iret (wf := [cM h (ka, kb, kc, (nI np), (nI n)) ((F_X5_isMonth ka kb kc v mo ki am sk dn x np n).2.1) ((F_X5_isMonth ka kb kc v mo ki am sk dn x np n).2.2.1), aI G (h 19) 60 mo, aI G (h 20) 60 ki, aI G (h 21) 60 am, aZ G (h 22) 60 sk, aZ G (h 23) 60 ((F_X5_isMonth ka kb kc v mo ki am sk dn x np n).2.2.2)]) S hr hlk hK hW [0, 1, 2, 3, 4, 5] rfl rfl (congrArg (fun (z : Int32 × S7 × Int32 × (Nat → Bool)) => [cM h (ka, kb, kc, (nI np), (nI n)) z.2.1 z.2.2.1, aI G (h 19) 60 mo, aI G (h 20) 60 ki, aI G (h 21) 60 am, aZ G (h 22) 60 sk, aZ G (h 23) 60 z.2.2.2]) eF).symm (congrArg (fun (z : Int32 × S7 × Int32 × (Nat → Bool)) => z.1) eF).symm dX5_stateAt_16
  ·
    refine lv_aload_n hx hb dX5_stateAt_8 rfl (lv_at hl 0 rfl) ?_
    refine k_get (C := RX5) (T := TX5) (N := 18) (ci := 5) (v := .int (((F_X5_isMonth ka kb kc v mo ki am sk dn x np n).2.1).1)) S hK hW k_X5_stateAt_in5 0 10 rfl rfl (by decide) k_X5_stateAt_f61 rfl dX5_stateAt_9 ?_
    refine lv_goto (tgt := 16) hx hb dX5_stateAt_12 (by decide) ?_
    have eF : (F_X5_stateAt ka kb kc v mo ki am sk dn x np n) = (((F_X5_isMonth ka kb kc v mo ki am sk dn x np n).2.1).1, ((F_X5_isMonth ka kb kc v mo ki am sk dn x np n).2.1), (F_X5_isMonth ka kb kc v mo ki am sk dn x np n).2.2.1, (F_X5_isMonth ka kb kc v mo ki am sk dn x np n).2.2.2) := by
      unfold F_X5_stateAt
      rw [if_neg c_1]
    exact k_iret (wf := [cM h (ka, kb, kc, (nI np), (nI n)) ((F_X5_isMonth ka kb kc v mo ki am sk dn x np n).2.1) ((F_X5_isMonth ka kb kc v mo ki am sk dn x np n).2.2.1), aI G (h 19) 60 mo, aI G (h 20) 60 ki, aI G (h 21) 60 am, aZ G (h 22) 60 sk, aZ G (h 23) 60 ((F_X5_isMonth ka kb kc v mo ki am sk dn x np n).2.2.2)]) S hr hlk hK hW [0, 1, 2, 3, 4, 5] rfl rfl (congrArg (fun (z : Int32 × S7 × Int32 × (Nat → Bool)) => [cM h (ka, kb, kc, (nI np), (nI n)) z.2.1 z.2.2.1, aI G (h 19) 60 mo, aI G (h 20) 60 ki, aI G (h 21) 60 am, aZ G (h 22) 60 sk, aZ G (h 23) 60 z.2.2.2]) eF).symm (congrArg (fun (z : Int32 × S7 × Int32 × (Nat → Bool)) => z.1) eF).symm dX5_stateAt_16
theorem nI_01 : nI (0 + 1) = 1 := by decide +kernel
def Lp_X5_lapse (ka : Int32) (kb : Int32) (kc : Int32) (np : Nat) : Nat → Nat → S7 → (Nat → Bool) → Int32 × S7 × (Nat → Bool)
  | 0, i, v9, dn9 => ((-1), v9, dn9)
  | d + 1, i, v9, dn9 => if (F_X5_closeMonth ka kb kc v9 ((nI np + nI (i + 1)) - 1)).1 = 2 then ((nI np + nI (i + 1)), (F_X5_closeMonth ka kb kc v9 ((nI np + nI (i + 1)) - 1)), dn9)
  else Lp_X5_lapse ka kb kc np d (i + 1) (F_X5_closeMonth ka kb kc v9 ((nI np + nI (i + 1)) - 1)) dn9
def F_X5_lapse (ka : Int32) (kb : Int32) (kc : Int32) (mo : (Nat → Int32)) (ki : (Nat → Int32)) (am : (Nat → Int32)) (sk : (Nat → Bool)) (dn : (Nat → Bool)) (x : Int32) (np : Nat) (n : Nat) (w : Nat) : Int32 × S7 × (Nat → Bool) :=
  if x ≤ 0 then Lp_X5_lapse ka kb kc np w 0 ((F_X5_goNow ka kb kc mo ki am sk dn np n).1) ((F_X5_goNow ka kb kc mo ki am sk dn np n).2)
  else Lp_X5_lapse ka kb kc np w 0 ((F_X5_premium ((F_X5_goNow ka kb kc mo ki am sk dn np n).1) x).2) ((F_X5_goNow ka kb kc mo ki am sk dn np n).2)
set_option maxRecDepth 100000 in
theorem k_X5_lapse_f122 : Cond.fieldLink RX5 122 "FlexiblePolicyModel" "now" "I" ∈ wsX5_lapse := by decide +kernel
set_option maxRecDepth 100000 in
theorem k_X5_lapse_in5 : ∀ w ∈ u_ws RX5 TX5 18, w ∈ wsX5_lapse := by decide +kernel
set_option maxRecDepth 100000 in
theorem k_X5_lapse_f61 : Cond.fieldLink RX5 61 "FlexiblePolicyModel" "state" "I" ∈ wsX5_lapse := by decide +kernel
theorem nd_X5_lapse : yX5_lapse.cls = RX5 ∧ yX5_lapse.cls ≠ "java/lang/invoke/MethodHandle" ∧ yX5_lapse.cls ≠ "java/lang/invoke/VarHandle" ∧ (parseMethodDescriptor yX5_lapse.desc).map (fun d => d.parameters.length) = some 2 := by decide +kernel
abbrev rm_X5_lapse : Room := { frames := 6, cells := 0, slots := 0, locals := 136 }
set_option maxHeartbeats 4000000 in
set_option maxRecDepth 100000 in
theorem c_X5_lapse (l : Launch) (G : GG) (h : Nat → Nat) (ka : Int32) (kb : Int32) (kc : Int32) (v : S7) (t : Int32) (mo : (Nat → Int32)) (ki : (Nat → Int32)) (am : (Nat → Int32)) (sk : (Nat → Bool)) (dn : (Nat → Bool)) (x : Int32) (np : Nat) (n : Nat) (w : Nat) (hn : n ≤ 60) (hp : np ≤ 120) (hw : w ≤ 120) : CI l G yX5_lapse wsX5_lapse rm_X5_lapse [.ref (h 18), .int (nI w), .int x] [cM h (ka, kb, kc, (nI np), (nI n)) v t, aI G (h 19) 60 mo, aI G (h 20) 60 ki, aI G (h 21) 60 am, aZ G (h 22) 60 sk, aZ G (h 23) 60 dn] ((F_X5_lapse ka kb kc mo ki am sk dn x np n w).1) [cM h (ka, kb, kc, (nI np), (nI n)) ((F_X5_lapse ka kb kc mo ki am sk dn x np n w).2.1) t, aI G (h 19) 60 mo, aI G (h 20) 60 ki, aI G (h 21) 60 am, aZ G (h 22) 60 sk, aZ G (h 23) 60 ((F_X5_lapse ka kb kc mo ki am sk dn x np n w).2.2)] := by
  refine CI_of (own := RX5) (by decide +kernel) rfl rfl (Nat.le_of_ble_eq_true rfl) ?_
  intro pP eE sS mM args below meth cC A S hK hr hlk hmn hW ls hl
  have hx := S.1
  have hb := S.2.1
  have hl : lv_has ls 4 [(0, .ref (h 18)), (1, .int (nI w)), (2, .int x)] := hl
  have hW : Wd G A sS.heap [cM h (ka, kb, kc, (nI np), (nI n)) v t, aI G (h 19) 60 mo, aI G (h 20) 60 ki, aI G (h 21) 60 am, aZ G (h 22) 60 sk, aZ G (h 23) 60 dn] sS.heap [] := hW
  have key : ∀ (d i : Nat) (v9 : S7) (dn9 : (Nat → Bool)), i + d = w → Lp_X5_lapse ka kb kc np d i v9 dn9 = (F_X5_lapse ka kb kc mo ki am sk dn x np n w) → ∀ (H : Heap) (locs : List Loc) (ls : Array Slot), Wd G A sS.heap [cM h (ka, kb, kc, (nI np), (nI n)) v9 t, aI G (h 19) 60 mo, aI G (h 20) 60 ki, aI G (h 21) 60 am, aZ G (h 22) 60 sk, aZ G (h 23) 60 dn9] H locs → lv_has ls 4 [(3, .int (nI (i + 1))), (0, .ref (h 18)), (1, .int (nI w))] → W pP l eE rm_X5_lapse sS mM args below meth cC H locs 0 0 (MQ below (QI G A ((F_X5_lapse ka kb kc mo ki am sk dn x np n w).1) [cM h (ka, kb, kc, (nI np), (nI n)) ((F_X5_lapse ka kb kc mo ki am sk dn x np n w).2.1) t, aI G (h 19) 60 mo, aI G (h 20) 60 ki, aI G (h 21) 60 am, aZ G (h 22) 60 sk, aZ G (h 23) 60 ((F_X5_lapse ka kb kc mo ki am sk dn x np n w).2.2)]) args sS 0 0 A) (F0 mM 16 ls []) := by
    intro d
    induction d with
    | zero =>
      intro i v9 dn9 hi hF H locs ls hW hl
      have hc : nI w < nI (i + 1) := nI_lt (by omega) (by omega)
      refine lv_iload_n hx hb dX5_lapse_16 rfl (lv_at hl 0 rfl) ?_
      refine lv_iload_n hx hb dX5_lapse_17 rfl (lv_at hl 2 rfl) ?_
      refine lv_icmp_gt (tgt := 54) hx hb dX5_lapse_18 (by decide) (fun c_1 => ?_) (fun c_1 => ?_)
      ·
        refine lv_iconst (v := (-1)) hx hb dX5_lapse_54 (by decide) ?_
        have eF : (F_X5_lapse ka kb kc mo ki am sk dn x np n w) = ((-1), v9, dn9) := hF.symm.trans (by
          rw [Lp_X5_lapse])
        exact k_iret (wf := [cM h (ka, kb, kc, (nI np), (nI n)) v9 t, aI G (h 19) 60 mo, aI G (h 20) 60 ki, aI G (h 21) 60 am, aZ G (h 22) 60 sk, aZ G (h 23) 60 dn9]) S hr hlk hK hW [0, 1, 2, 3, 4, 5] rfl rfl (congrArg (fun (z : Int32 × S7 × (Nat → Bool)) => [cM h (ka, kb, kc, (nI np), (nI n)) z.2.1 t, aI G (h 19) 60 mo, aI G (h 20) 60 ki, aI G (h 21) 60 am, aZ G (h 22) 60 sk, aZ G (h 23) 60 z.2.2]) eF).symm (congrArg (fun (z : Int32 × S7 × (Nat → Bool)) => z.1) eF).symm dX5_lapse_55
      ·
        exact absurd hc c_1
    | succ d ih =>
      intro i v9 dn9 hi hF H locs ls hW hl
      have hc : ¬ nI w < nI (i + 1) := nI_nlt (by omega) (by omega)
      refine lv_iload_n hx hb dX5_lapse_16 rfl (lv_at hl 0 rfl) ?_
      refine lv_iload_n hx hb dX5_lapse_17 rfl (lv_at hl 2 rfl) ?_
      refine lv_icmp_gt (tgt := 54) hx hb dX5_lapse_18 (by decide) (fun c_2 => ?_) (fun c_2 => ?_)
      ·
        exact absurd c_2 hc
      ·
        refine lv_aload_n hx hb dX5_lapse_21 rfl (lv_at hl 1 rfl) ?_
        refine lv_aload_n hx hb dX5_lapse_22 rfl (lv_at hl 1 rfl) ?_
        refine k_get (C := RX5) (T := TX5) (N := 18) (ci := 5) (v := .int (nI np)) S hK hW k_X5_lapse_in5 0 3 rfl rfl (by decide) k_X5_lapse_f122 rfl dX5_lapse_23 ?_
        refine lv_iload_n hx hb dX5_lapse_26 rfl (lv_at hl 0 rfl) ?_
        refine lv_iadd hx hb dX5_lapse_27 ?_
        refine lv_iconst (v := 1) hx hb dX5_lapse_28 (by decide) ?_
        refine lv_isub hx hb dX5_lapse_29 ?_
        refine k_callVv (C := RX5) (As := [.int ((nI np + nI (i + 1)) - 1)]) (rest := []) (wr := [aI G (h 19) 60 mo, aI G (h 20) 60 ki, aI G (h 21) 60 am, aZ G (h 22) 60 sk, aZ G (h 23) 60 dn9]) (c_X5_closeMonth l G h ka kb kc (nI np) (nI n) v9 t ((nI np + nI (i + 1)) - 1)) S hK hW gX5_lapse_X5_closeMonth rfl ⟨rfl, rfl⟩ nd_X5_closeMonth ⟨rfl, rfl⟩ (qb := 0) (ci := 5) rfl rfl [0] [1, 2, 3, 4, 5] rfl rfl rfl rfl (by decide) rfl hl.1 rfl dX5_lapse_30 ⟨Nat.zero_le _, Nat.zero_le _⟩ (fun H locs hW => ?_)
        have hW : Wd G A sS.heap [aI G (h 19) 60 mo, aI G (h 20) 60 ki, aI G (h 21) 60 am, aZ G (h 22) 60 sk, aZ G (h 23) 60 dn9, cM h (ka, kb, kc, (nI np), (nI n)) (F_X5_closeMonth ka kb kc v9 ((nI np + nI (i + 1)) - 1)) t] H locs := hW
        refine lv_aload_n hx hb dX5_lapse_33 rfl (lv_at hl 1 rfl) ?_
        refine k_get (C := RX5) (T := TX5) (N := 18) (ci := 5) (v := .int ((F_X5_closeMonth ka kb kc v9 ((nI np + nI (i + 1)) - 1)).1)) S hK hW k_X5_lapse_in5 5 10 rfl rfl (by decide) k_X5_lapse_f61 rfl dX5_lapse_34 ?_
        refine lv_iconst (v := 2) hx hb dX5_lapse_37 (by decide) ?_
        refine lv_icmp_ne (tgt := 48) hx hb dX5_lapse_38 (by decide) (fun c_3 => ?_) (fun c_3 => ?_)
        ·
          refine lv_iinc (v := (nI (i + 1) + 1)) (lv' := [(3, .int (nI (i + 1) + 1)), (0, .ref (h 18)), (1, .int (nI w))]) hx hb dX5_lapse_48 hl (k := 0) rfl rfl (by decide) rfl (fun ls hl => ?_)
          refine lv_goto (tgt := 16) hx hb dX5_lapse_51 (by decide) ?_
          have eS : Lp_X5_lapse ka kb kc np (d + 1) i v9 dn9 = Lp_X5_lapse ka kb kc np d (i + 1) (F_X5_closeMonth ka kb kc v9 ((nI np + nI (i + 1)) - 1)) dn9 := by
            rw [Lp_X5_lapse, if_neg c_3]
          have hl : lv_has ls 4 [(3, .int (nI (i + 1 + 1))), (0, .ref (h 18)), (1, .int (nI w))] := by
            first | exact lv_sub hl [0, 1, 2] rfl | (rw [← nI_1]; exact lv_sub hl [0, 1, 2] rfl)
          exact ih (i + 1) (F_X5_closeMonth ka kb kc v9 ((nI np + nI (i + 1)) - 1)) dn9 (by omega) (eS.symm.trans hF) _ _ _ (hW.re [5, 0, 1, 2, 3, 4] rfl rfl) hl
        ·
          refine lv_aload_n hx hb dX5_lapse_41 rfl (lv_at hl 1 rfl) ?_
          refine k_get (C := RX5) (T := TX5) (N := 18) (ci := 5) (v := .int (nI np)) S hK hW k_X5_lapse_in5 5 3 rfl rfl (by decide) k_X5_lapse_f122 rfl dX5_lapse_42 ?_
          refine lv_iload_n hx hb dX5_lapse_45 rfl (lv_at hl 0 rfl) ?_
          refine lv_iadd hx hb dX5_lapse_46 ?_
          have eF : (F_X5_lapse ka kb kc mo ki am sk dn x np n w) = ((nI np + nI (i + 1)), (F_X5_closeMonth ka kb kc v9 ((nI np + nI (i + 1)) - 1)), dn9) := hF.symm.trans (by
            rw [Lp_X5_lapse, if_pos c_3])
          exact k_iret (wf := [cM h (ka, kb, kc, (nI np), (nI n)) (F_X5_closeMonth ka kb kc v9 ((nI np + nI (i + 1)) - 1)) t, aI G (h 19) 60 mo, aI G (h 20) 60 ki, aI G (h 21) 60 am, aZ G (h 22) 60 sk, aZ G (h 23) 60 dn9]) S hr hlk hK hW [5, 0, 1, 2, 3, 4] rfl rfl (congrArg (fun (z : Int32 × S7 × (Nat → Bool)) => [cM h (ka, kb, kc, (nI np), (nI n)) z.2.1 t, aI G (h 19) 60 mo, aI G (h 20) 60 ki, aI G (h 21) 60 am, aZ G (h 22) 60 sk, aZ G (h 23) 60 z.2.2]) eF).symm (congrArg (fun (z : Int32 × S7 × (Nat → Bool)) => z.1) eF).symm dX5_lapse_47
  refine lv_aload_n hx hb dX5_lapse_0 rfl (lv_at hl 0 rfl) ?_
  refine k_callVv (C := RX5) (As := []) (rest := []) (wr := []) (c_X5_goNow l G h ka kb kc v t mo ki am sk dn np n (by omega) (by omega)) S hK hW gX5_lapse_X5_goNow rfl ⟨rfl, rfl⟩ nd_X5_goNow ⟨rfl, rfl⟩ (qb := 0) (ci := 5) rfl rfl [0, 1, 2, 3, 4, 5] [] rfl rfl rfl rfl (by decide) rfl hl.1 rfl dX5_lapse_1 ⟨Nat.zero_le _, Nat.zero_le _⟩ (fun H locs hW => ?_)
  have hW : Wd G A sS.heap [cM h (ka, kb, kc, (nI np), (nI n)) ((F_X5_goNow ka kb kc mo ki am sk dn np n).1) t, aI G (h 19) 60 mo, aI G (h 20) 60 ki, aI G (h 21) 60 am, aZ G (h 22) 60 sk, aZ G (h 23) 60 ((F_X5_goNow ka kb kc mo ki am sk dn np n).2)] H locs := hW
  refine lv_iload_n hx hb dX5_lapse_4 rfl (lv_at hl 2 rfl) ?_
  refine lv_if_le (tgt := 14) hx hb dX5_lapse_5 (by decide) (fun c_4 => ?_) (fun c_4 => ?_)
  ·
    refine lv_iconst (v := 1) hx hb dX5_lapse_14 (by decide) ?_
    refine lv_istore_n (lv' := [(3, .int 1), (0, .ref (h 18)), (1, .int (nI w)), (2, .int x)]) hx hb dX5_lapse_15 rfl hl (by decide) rfl (fun ls hl => ?_)
    have eF : (F_X5_lapse ka kb kc mo ki am sk dn x np n w) = Lp_X5_lapse ka kb kc np w 0 ((F_X5_goNow ka kb kc mo ki am sk dn np n).1) ((F_X5_goNow ka kb kc mo ki am sk dn np n).2) := by
      unfold F_X5_lapse
      rw [if_pos c_4]
    exact key w 0 ((F_X5_goNow ka kb kc mo ki am sk dn np n).1) ((F_X5_goNow ka kb kc mo ki am sk dn np n).2) (by omega) eF.symm _ _ _ (hW.re [0, 1, 2, 3, 4, 5] rfl rfl) (lv_sub hl [0, 1, 2] (by rw [nI_01] <;> rfl))
  ·
    refine lv_aload_n hx hb dX5_lapse_8 rfl (lv_at hl 0 rfl) ?_
    refine lv_iload_n hx hb dX5_lapse_9 rfl (lv_at hl 2 rfl) ?_
    refine k_callVi (C := RX5) (As := [.int x]) (rest := []) (wr := [aI G (h 19) 60 mo, aI G (h 20) 60 ki, aI G (h 21) 60 am, aZ G (h 22) 60 sk, aZ G (h 23) 60 ((F_X5_goNow ka kb kc mo ki am sk dn np n).2)]) (c_X5_premium l G h ka kb kc (nI np) (nI n) ((F_X5_goNow ka kb kc mo ki am sk dn np n).1) t x) S hK hW gX5_lapse_X5_premium rfl ⟨rfl, rfl⟩ nd_X5_premium ⟨rfl, rfl⟩ (qb := 0) (ci := 5) rfl rfl [0] [1, 2, 3, 4, 5] rfl rfl rfl rfl (by decide) rfl hl.1 rfl dX5_lapse_10 ⟨Nat.zero_le _, Nat.zero_le _⟩ (fun H locs hW => ?_)
    have hW : Wd G A sS.heap [aI G (h 19) 60 mo, aI G (h 20) 60 ki, aI G (h 21) 60 am, aZ G (h 22) 60 sk, aZ G (h 23) 60 ((F_X5_goNow ka kb kc mo ki am sk dn np n).2), cM h (ka, kb, kc, (nI np), (nI n)) ((F_X5_premium ((F_X5_goNow ka kb kc mo ki am sk dn np n).1) x).2) t] H locs := hW
    refine lv_istore_n (lv' := [(3, .int (bI ((F_X5_premium ((F_X5_goNow ka kb kc mo ki am sk dn np n).1) x).1))), (0, .ref (h 18)), (1, .int (nI w)), (2, .int x)]) hx hb dX5_lapse_13 rfl hl (by decide) rfl (fun ls hl => ?_)
    refine lv_iconst (v := 1) hx hb dX5_lapse_14 (by decide) ?_
    refine lv_istore_n (lv' := [(3, .int 1), (0, .ref (h 18)), (1, .int (nI w)), (2, .int x)]) hx hb dX5_lapse_15 rfl hl (by decide) rfl (fun ls hl => ?_)
    have eF : (F_X5_lapse ka kb kc mo ki am sk dn x np n w) = Lp_X5_lapse ka kb kc np w 0 ((F_X5_premium ((F_X5_goNow ka kb kc mo ki am sk dn np n).1) x).2) ((F_X5_goNow ka kb kc mo ki am sk dn np n).2) := by
      unfold F_X5_lapse
      rw [if_neg c_4]
    exact key w 0 ((F_X5_premium ((F_X5_goNow ka kb kc mo ki am sk dn np n).1) x).2) ((F_X5_goNow ka kb kc mo ki am sk dn np n).2) (by omega) eF.symm _ _ _ (hW.re [5, 0, 1, 2, 3, 4] rfl rfl) (lv_sub hl [0, 1, 2] (by rw [nI_01] <;> rfl))
theorem nI_36 : nI 36 = 36 := by decide +kernel
theorem nI_120' : (120 : Int32) = nI 120 := by decide +kernel
theorem in5_le {x : Int32} {b : Nat} {B : Int32} (hb : b < 2 ^ 31) (hB : B = nI b) (h : ¬ bI (F_X5_in x 1 B) = 0) : x = nI x.toNatClampNeg ∧ x.toNatClampNeg ≤ b ∧ 1 ≤ x.toNatClampNeg := by
  obtain ⟨h1, h2⟩ := in5 h
  rw [hB] at h2
  have h0 : 0 ≤ x := by
    rw [Int32.le_iff_toInt_le] at h1 ⊢
    have e0 : (0 : Int32).toInt = 0 := by decide
    have e1 : (1 : Int32).toInt = 1 := by decide
    omega
  have e := cl_of h0
  refine ⟨e, cl_le hb h0 h2, ?_⟩
  have hle := cl_le hb h0 h2
  rw [e, Int32.le_iff_toInt_le, nI_toInt (by omega)] at h1
  have e1 : (1 : Int32).toInt = 1 := by decide
  omega
theorem nI_mid {a b : Nat} (ha : a ≤ 2000000) (hb : b ≤ 2000000) : (nI a + nI b) / 2 = nI ((a + b) / 2) := by
  rw [nI_add]
  exact pk_div (a := a + b) (d := 2) (by omega) (by omega) (by omega)
theorem nI_2m : (2000000 : Int32) = nI 2000000 := by decide +kernel
def F_X5_wouldLapse (ka : Int32) (kb : Int32) (kc : Int32) (v : S7) (mo : (Nat → Int32)) (ki : (Nat → Int32)) (am : (Nat → Int32)) (sk : (Nat → Bool)) (dn : (Nat → Bool)) (x : Int32) (np : Nat) (n : Nat) : Int32 × S7 × Int32 × (Nat → Bool) :=
  if bI (F_X5_in x 1 120) = 0 then (0, v, 1, dn)
  else (if ((F_X5_goNow ka kb kc mo ki am sk dn np n).1).1 ≤ 1 then ((F_X5_lapse ka kb kc mo ki am sk ((F_X5_goNow ka kb kc mo ki am sk dn np n).2) 0 np n x.toNatClampNeg).1, ((F_X5_lapse ka kb kc mo ki am sk ((F_X5_goNow ka kb kc mo ki am sk dn np n).2) 0 np n x.toNatClampNeg).2.1), 0, (F_X5_lapse ka kb kc mo ki am sk ((F_X5_goNow ka kb kc mo ki am sk dn np n).2) 0 np n x.toNatClampNeg).2.2)
    else ((-1), ((F_X5_goNow ka kb kc mo ki am sk dn np n).1), 0, (F_X5_goNow ka kb kc mo ki am sk dn np n).2))
set_option maxRecDepth 100000 in
theorem k_X5_wouldLapse_f34 : Cond.fieldLink RX5 34 "FlexiblePolicyModel" "thrown" "I" ∈ wsX5_wouldLapse := by decide +kernel
set_option maxRecDepth 100000 in
theorem k_X5_wouldLapse_in5 : ∀ w ∈ u_ws RX5 TX5 18, w ∈ wsX5_wouldLapse := by decide +kernel
set_option maxRecDepth 100000 in
theorem k_X5_wouldLapse_f61 : Cond.fieldLink RX5 61 "FlexiblePolicyModel" "state" "I" ∈ wsX5_wouldLapse := by decide +kernel
theorem nd_X5_wouldLapse : yX5_wouldLapse.cls = RX5 ∧ yX5_wouldLapse.cls ≠ "java/lang/invoke/MethodHandle" ∧ yX5_wouldLapse.cls ≠ "java/lang/invoke/VarHandle" ∧ (parseMethodDescriptor yX5_wouldLapse.desc).map (fun d => d.parameters.length) = some 1 := by decide +kernel
abbrev rm_X5_wouldLapse : Room := { frames := 7, cells := 0, slots := 0, locals := 159 }
set_option maxHeartbeats 4000000 in
set_option maxRecDepth 100000 in
theorem c_X5_wouldLapse (l : Launch) (G : GG) (h : Nat → Nat) (ka : Int32) (kb : Int32) (kc : Int32) (v : S7) (t : Int32) (mo : (Nat → Int32)) (ki : (Nat → Int32)) (am : (Nat → Int32)) (sk : (Nat → Bool)) (dn : (Nat → Bool)) (x : Int32) (np : Nat) (n : Nat) (hn : n ≤ 60) (hp : np ≤ 120) : CI l G yX5_wouldLapse wsX5_wouldLapse rm_X5_wouldLapse [.ref (h 18), .int x] [cM h (ka, kb, kc, (nI np), (nI n)) v t, aI G (h 19) 60 mo, aI G (h 20) 60 ki, aI G (h 21) 60 am, aZ G (h 22) 60 sk, aZ G (h 23) 60 dn] ((F_X5_wouldLapse ka kb kc v mo ki am sk dn x np n).1) [cM h (ka, kb, kc, (nI np), (nI n)) ((F_X5_wouldLapse ka kb kc v mo ki am sk dn x np n).2.1) ((F_X5_wouldLapse ka kb kc v mo ki am sk dn x np n).2.2.1), aI G (h 19) 60 mo, aI G (h 20) 60 ki, aI G (h 21) 60 am, aZ G (h 22) 60 sk, aZ G (h 23) 60 ((F_X5_wouldLapse ka kb kc v mo ki am sk dn x np n).2.2.2)] := by
  refine CI_of (own := RX5) (by decide +kernel) rfl rfl (Nat.le_of_ble_eq_true rfl) ?_
  intro pP eE sS mM args below meth cC A S hK hr hlk hmn hW ls hl
  have hx := S.1
  have hb := S.2.1
  have hl : lv_has ls 2 [(0, .ref (h 18)), (1, .int x)] := hl
  have hW : Wd G A sS.heap [cM h (ka, kb, kc, (nI np), (nI n)) v t, aI G (h 19) 60 mo, aI G (h 20) 60 ki, aI G (h 21) 60 am, aZ G (h 22) 60 sk, aZ G (h 23) 60 dn] sS.heap [] := hW
  refine lv_aload_n hx hb dX5_wouldLapse_0 rfl (lv_at hl 0 rfl) ?_
  refine lv_iload_n hx hb dX5_wouldLapse_1 rfl (lv_at hl 1 rfl) ?_
  refine lv_iconst (v := 1) hx hb dX5_wouldLapse_2 (by decide) ?_
  refine lv_bipush (v := 120) hx hb dX5_wouldLapse_3 (by decide) ?_
  refine k_callSi (As := [.int x, .int 1, .int 120]) (rest := [.ref (h 18)]) (wr := [cM h (ka, kb, kc, (nI np), (nI n)) v t, aI G (h 19) 60 mo, aI G (h 20) 60 ki, aI G (h 21) 60 am, aZ G (h 22) 60 sk, aZ G (h 23) 60 dn]) (c_X5_in l G x 1 120) S hK hW gX5_wouldLapse_X5_in rfl ⟨rfl, rfl⟩ nd_X5_in ⟨rfl, rfl⟩ [] [0, 1, 2, 3, 4, 5] rfl rfl rfl rfl (by decide) rfl hl.1 rfl dX5_wouldLapse_5 ⟨Nat.zero_le _, Nat.zero_le _⟩ (fun H locs hW => ?_)
  have hW : Wd G A sS.heap [cM h (ka, kb, kc, (nI np), (nI n)) v t, aI G (h 19) 60 mo, aI G (h 20) 60 ki, aI G (h 21) 60 am, aZ G (h 22) 60 sk, aZ G (h 23) 60 dn] H locs := hW
  refine lv_if_eq (tgt := 15) hx hb dX5_wouldLapse_8 (by decide) (fun c_1 => ?_) (fun c_1 => ?_)
  ·
    refine lv_iconst (v := 1) hx hb dX5_wouldLapse_15 (by decide) ?_
    refine k_put (C := RX5) (T := TX5) (N := 18) (ci := 5) (v := .int 1) (ws' := [cM h (ka, kb, kc, (nI np), (nI n)) v 1, aI G (h 19) 60 mo, aI G (h 20) 60 ki, aI G (h 21) 60 am, aZ G (h 22) 60 sk, aZ G (h 23) 60 dn]) S hK hW k_X5_wouldLapse_in5 tyX5_ok nmX5 0 17 rfl rfl (by decide) k_X5_wouldLapse_f34 rfl rfl rfl rfl rfl dX5_wouldLapse_16 (fun H locs hW => ?_)
    refine lv_aload_n hx hb dX5_wouldLapse_19 rfl (lv_at hl 0 rfl) ?_
    refine k_get (C := RX5) (T := TX5) (N := 18) (ci := 5) (v := .int 1) S hK hW k_X5_wouldLapse_in5 0 17 rfl rfl (by decide) k_X5_wouldLapse_f34 rfl dX5_wouldLapse_20 ?_
    refine lv_if_le (tgt := 28) hx hb dX5_wouldLapse_23 (by decide) (fun c_2 => ?_) (fun c_2 => ?_)
    ·
      exact absurd c_2 (by decide)
    ·
      refine lv_iconst (v := 0) hx hb dX5_wouldLapse_26 (by decide) ?_
      have eF : (F_X5_wouldLapse ka kb kc v mo ki am sk dn x np n) = (0, v, 1, dn) := by
        unfold F_X5_wouldLapse
        rw [if_pos c_1]
      exact k_iret (wf := [cM h (ka, kb, kc, (nI np), (nI n)) v 1, aI G (h 19) 60 mo, aI G (h 20) 60 ki, aI G (h 21) 60 am, aZ G (h 22) 60 sk, aZ G (h 23) 60 dn]) S hr hlk hK hW [0, 1, 2, 3, 4, 5] rfl rfl (congrArg (fun (z : Int32 × S7 × Int32 × (Nat → Bool)) => [cM h (ka, kb, kc, (nI np), (nI n)) z.2.1 z.2.2.1, aI G (h 19) 60 mo, aI G (h 20) 60 ki, aI G (h 21) 60 am, aZ G (h 22) 60 sk, aZ G (h 23) 60 z.2.2.2]) eF).symm (congrArg (fun (z : Int32 × S7 × Int32 × (Nat → Bool)) => z.1) eF).symm dX5_wouldLapse_27
  ·
    refine lv_iconst (v := 0) hx hb dX5_wouldLapse_11 (by decide) ?_
    refine lv_goto (tgt := 16) hx hb dX5_wouldLapse_12 (by decide) ?_
    refine k_put (C := RX5) (T := TX5) (N := 18) (ci := 5) (v := .int 0) (ws' := [cM h (ka, kb, kc, (nI np), (nI n)) v 0, aI G (h 19) 60 mo, aI G (h 20) 60 ki, aI G (h 21) 60 am, aZ G (h 22) 60 sk, aZ G (h 23) 60 dn]) S hK hW k_X5_wouldLapse_in5 tyX5_ok nmX5 0 17 rfl rfl (by decide) k_X5_wouldLapse_f34 rfl rfl rfl rfl rfl dX5_wouldLapse_16 (fun H locs hW => ?_)
    refine lv_aload_n hx hb dX5_wouldLapse_19 rfl (lv_at hl 0 rfl) ?_
    refine k_get (C := RX5) (T := TX5) (N := 18) (ci := 5) (v := .int 0) S hK hW k_X5_wouldLapse_in5 0 17 rfl rfl (by decide) k_X5_wouldLapse_f34 rfl dX5_wouldLapse_20 ?_
    refine lv_if_le (tgt := 28) hx hb dX5_wouldLapse_23 (by decide) (fun c_3 => ?_) (fun c_3 => ?_)
    ·
      refine lv_aload_n hx hb dX5_wouldLapse_28 rfl (lv_at hl 0 rfl) ?_
      refine k_callVv (C := RX5) (As := []) (rest := []) (wr := []) (c_X5_goNow l G h ka kb kc v 0 mo ki am sk dn np n (by omega) (by omega)) S hK hW gX5_wouldLapse_X5_goNow rfl ⟨rfl, rfl⟩ nd_X5_goNow ⟨rfl, rfl⟩ (qb := 0) (ci := 5) rfl rfl [0, 1, 2, 3, 4, 5] [] rfl rfl rfl rfl (by decide) rfl hl.1 rfl dX5_wouldLapse_29 ⟨Nat.zero_le _, Nat.zero_le _⟩ (fun H locs hW => ?_)
      have hW : Wd G A sS.heap [cM h (ka, kb, kc, (nI np), (nI n)) ((F_X5_goNow ka kb kc mo ki am sk dn np n).1) 0, aI G (h 19) 60 mo, aI G (h 20) 60 ki, aI G (h 21) 60 am, aZ G (h 22) 60 sk, aZ G (h 23) 60 ((F_X5_goNow ka kb kc mo ki am sk dn np n).2)] H locs := hW
      refine lv_aload_n hx hb dX5_wouldLapse_32 rfl (lv_at hl 0 rfl) ?_
      refine k_get (C := RX5) (T := TX5) (N := 18) (ci := 5) (v := .int (((F_X5_goNow ka kb kc mo ki am sk dn np n).1).1)) S hK hW k_X5_wouldLapse_in5 0 10 rfl rfl (by decide) k_X5_wouldLapse_f61 rfl dX5_wouldLapse_33 ?_
      refine lv_iconst (v := 1) hx hb dX5_wouldLapse_36 (by decide) ?_
      refine lv_icmp_le (tgt := 44) hx hb dX5_wouldLapse_37 (by decide) (fun c_4 => ?_) (fun c_4 => ?_)
      ·
        refine lv_aload_n hx hb dX5_wouldLapse_44 rfl (lv_at hl 0 rfl) ?_
        refine lv_iload_n hx hb dX5_wouldLapse_45 rfl (lv_at hl 1 rfl) ?_
        refine lv_iconst (v := 0) hx hb dX5_wouldLapse_46 (by decide) ?_
        have hy47 : x.toNatClampNeg ≤ 120 := (in5_le (b := 120) (by omega) (by decide +kernel) c_1).2.1
        refine W.eq (g2 := F0 mM 47 ls [.int 0, .int (nI x.toNatClampNeg), .ref (h 18)]) (by rw [← (in5_le (b := 120) (by omega) (by decide +kernel) c_1).1]) ?_
        refine k_callVi (C := RX5) (As := [.int (nI x.toNatClampNeg), .int 0]) (rest := []) (wr := []) (c_X5_lapse l G h ka kb kc ((F_X5_goNow ka kb kc mo ki am sk dn np n).1) 0 mo ki am sk ((F_X5_goNow ka kb kc mo ki am sk dn np n).2) 0 np n x.toNatClampNeg (by omega) (by omega) (by omega)) S hK hW gX5_wouldLapse_X5_lapse rfl ⟨rfl, rfl⟩ nd_X5_lapse ⟨rfl, rfl⟩ (qb := 0) (ci := 5) rfl rfl [0, 1, 2, 3, 4, 5] [] rfl rfl rfl rfl (by decide) rfl hl.1 rfl dX5_wouldLapse_47 ⟨Nat.zero_le _, Nat.zero_le _⟩ (fun H locs hW => ?_)
        have hW : Wd G A sS.heap [cM h (ka, kb, kc, (nI np), (nI n)) ((F_X5_lapse ka kb kc mo ki am sk ((F_X5_goNow ka kb kc mo ki am sk dn np n).2) 0 np n x.toNatClampNeg).2.1) 0, aI G (h 19) 60 mo, aI G (h 20) 60 ki, aI G (h 21) 60 am, aZ G (h 22) 60 sk, aZ G (h 23) 60 ((F_X5_lapse ka kb kc mo ki am sk ((F_X5_goNow ka kb kc mo ki am sk dn np n).2) 0 np n x.toNatClampNeg).2.2)] H locs := hW
        have eF : (F_X5_wouldLapse ka kb kc v mo ki am sk dn x np n) = ((F_X5_lapse ka kb kc mo ki am sk ((F_X5_goNow ka kb kc mo ki am sk dn np n).2) 0 np n x.toNatClampNeg).1, ((F_X5_lapse ka kb kc mo ki am sk ((F_X5_goNow ka kb kc mo ki am sk dn np n).2) 0 np n x.toNatClampNeg).2.1), 0, (F_X5_lapse ka kb kc mo ki am sk ((F_X5_goNow ka kb kc mo ki am sk dn np n).2) 0 np n x.toNatClampNeg).2.2) := by
          unfold F_X5_wouldLapse
          rw [if_neg c_1, if_pos c_4]
        exact k_iret (wf := [cM h (ka, kb, kc, (nI np), (nI n)) ((F_X5_lapse ka kb kc mo ki am sk ((F_X5_goNow ka kb kc mo ki am sk dn np n).2) 0 np n x.toNatClampNeg).2.1) 0, aI G (h 19) 60 mo, aI G (h 20) 60 ki, aI G (h 21) 60 am, aZ G (h 22) 60 sk, aZ G (h 23) 60 ((F_X5_lapse ka kb kc mo ki am sk ((F_X5_goNow ka kb kc mo ki am sk dn np n).2) 0 np n x.toNatClampNeg).2.2)]) S hr hlk hK hW [0, 1, 2, 3, 4, 5] rfl rfl (congrArg (fun (z : Int32 × S7 × Int32 × (Nat → Bool)) => [cM h (ka, kb, kc, (nI np), (nI n)) z.2.1 z.2.2.1, aI G (h 19) 60 mo, aI G (h 20) 60 ki, aI G (h 21) 60 am, aZ G (h 22) 60 sk, aZ G (h 23) 60 z.2.2.2]) eF).symm (congrArg (fun (z : Int32 × S7 × Int32 × (Nat → Bool)) => z.1) eF).symm dX5_wouldLapse_50
      ·
        refine lv_iconst (v := (-1)) hx hb dX5_wouldLapse_40 (by decide) ?_
        refine lv_goto (tgt := 50) hx hb dX5_wouldLapse_41 (by decide) ?_
        have eF : (F_X5_wouldLapse ka kb kc v mo ki am sk dn x np n) = ((-1), ((F_X5_goNow ka kb kc mo ki am sk dn np n).1), 0, (F_X5_goNow ka kb kc mo ki am sk dn np n).2) := by
          unfold F_X5_wouldLapse
          rw [if_neg c_1, if_neg c_4]
        exact k_iret (wf := [cM h (ka, kb, kc, (nI np), (nI n)) ((F_X5_goNow ka kb kc mo ki am sk dn np n).1) 0, aI G (h 19) 60 mo, aI G (h 20) 60 ki, aI G (h 21) 60 am, aZ G (h 22) 60 sk, aZ G (h 23) 60 ((F_X5_goNow ka kb kc mo ki am sk dn np n).2)]) S hr hlk hK hW [0, 1, 2, 3, 4, 5] rfl rfl (congrArg (fun (z : Int32 × S7 × Int32 × (Nat → Bool)) => [cM h (ka, kb, kc, (nI np), (nI n)) z.2.1 z.2.2.1, aI G (h 19) 60 mo, aI G (h 20) 60 ki, aI G (h 21) 60 am, aZ G (h 22) 60 sk, aZ G (h 23) 60 z.2.2.2]) eF).symm (congrArg (fun (z : Int32 × S7 × Int32 × (Nat → Bool)) => z.1) eF).symm dX5_wouldLapse_50
    ·
      exact absurd c_3 (by decide)
