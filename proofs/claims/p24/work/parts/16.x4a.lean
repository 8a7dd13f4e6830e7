theorem sw_out5 {x : Int32} (h0 : ¬ x = 0) (h1 : ¬ x = 1) (h2 : ¬ x = 2) (h3 : ¬ x = 3) (h4 : ¬ x = 4) (h5 : ¬ x = 5) : x.toInt < 0 ∨ 5 < x.toInt := by
  have g0 : ¬ x.toInt = 0 := fun e => h0 (Int32.toInt_inj.mp (by rw [e]; decide))
  have g1 : ¬ x.toInt = 1 := fun e => h1 (Int32.toInt_inj.mp (by rw [e]; decide))
  have g2 : ¬ x.toInt = 2 := fun e => h2 (Int32.toInt_inj.mp (by rw [e]; decide))
  have g3 : ¬ x.toInt = 3 := fun e => h3 (Int32.toInt_inj.mp (by rw [e]; decide))
  have g4 : ¬ x.toInt = 4 := fun e => h4 (Int32.toInt_inj.mp (by rw [e]; decide))
  have g5 : ¬ x.toInt = 5 := fun e => h5 (Int32.toInt_inj.mp (by rw [e]; decide))
  omega
theorem sw_out20 {x : Int32} (h0 : ¬ x = 0) (h1 : ¬ x = 1) (h2 : ¬ x = 2) (h3 : ¬ x = 3) (h4 : ¬ x = 4) (h5 : ¬ x = 5) (h6 : ¬ x = 6) (h7 : ¬ x = 7) (h8 : ¬ x = 8) (h9 : ¬ x = 9) (h10 : ¬ x = 10) (h11 : ¬ x = 11) (h12 : ¬ x = 12) (h13 : ¬ x = 13) (h14 : ¬ x = 14) (h15 : ¬ x = 15) (h16 : ¬ x = 16) (h17 : ¬ x = 17) (h18 : ¬ x = 18) (h19 : ¬ x = 19) (h20 : ¬ x = 20) : x.toInt < 0 ∨ 20 < x.toInt := by
  have g0 : ¬ x.toInt = 0 := fun e => h0 (Int32.toInt_inj.mp (by rw [e]; decide))
  have g1 : ¬ x.toInt = 1 := fun e => h1 (Int32.toInt_inj.mp (by rw [e]; decide))
  have g2 : ¬ x.toInt = 2 := fun e => h2 (Int32.toInt_inj.mp (by rw [e]; decide))
  have g3 : ¬ x.toInt = 3 := fun e => h3 (Int32.toInt_inj.mp (by rw [e]; decide))
  have g4 : ¬ x.toInt = 4 := fun e => h4 (Int32.toInt_inj.mp (by rw [e]; decide))
  have g5 : ¬ x.toInt = 5 := fun e => h5 (Int32.toInt_inj.mp (by rw [e]; decide))
  have g6 : ¬ x.toInt = 6 := fun e => h6 (Int32.toInt_inj.mp (by rw [e]; decide))
  have g7 : ¬ x.toInt = 7 := fun e => h7 (Int32.toInt_inj.mp (by rw [e]; decide))
  have g8 : ¬ x.toInt = 8 := fun e => h8 (Int32.toInt_inj.mp (by rw [e]; decide))
  have g9 : ¬ x.toInt = 9 := fun e => h9 (Int32.toInt_inj.mp (by rw [e]; decide))
  have g10 : ¬ x.toInt = 10 := fun e => h10 (Int32.toInt_inj.mp (by rw [e]; decide))
  have g11 : ¬ x.toInt = 11 := fun e => h11 (Int32.toInt_inj.mp (by rw [e]; decide))
  have g12 : ¬ x.toInt = 12 := fun e => h12 (Int32.toInt_inj.mp (by rw [e]; decide))
  have g13 : ¬ x.toInt = 13 := fun e => h13 (Int32.toInt_inj.mp (by rw [e]; decide))
  have g14 : ¬ x.toInt = 14 := fun e => h14 (Int32.toInt_inj.mp (by rw [e]; decide))
  have g15 : ¬ x.toInt = 15 := fun e => h15 (Int32.toInt_inj.mp (by rw [e]; decide))
  have g16 : ¬ x.toInt = 16 := fun e => h16 (Int32.toInt_inj.mp (by rw [e]; decide))
  have g17 : ¬ x.toInt = 17 := fun e => h17 (Int32.toInt_inj.mp (by rw [e]; decide))
  have g18 : ¬ x.toInt = 18 := fun e => h18 (Int32.toInt_inj.mp (by rw [e]; decide))
  have g19 : ¬ x.toInt = 19 := fun e => h19 (Int32.toInt_inj.mp (by rw [e]; decide))
  have g20 : ¬ x.toInt = 20 := fun e => h20 (Int32.toInt_inj.mp (by rw [e]; decide))
  omega
theorem nI_21 : nI 21 = 21 := by decide +kernel
theorem nI_60 : nI 60 = 60 := by decide +kernel
theorem nI_120 : nI 120 = 120 := by decide +kernel
def F_X4_endMonth (q : S3) (v : S7) (m : Int32) : S7 :=
  if bI (F_X3_isLive v) = 0 then v
  else (F_X3_addInterest (F_X3_settle v (F_X2_chargeFor q v.2.1 m) m))
set_option maxRecDepth 100000 in
theorem k_X4_endMonth_f10 : Cond.fieldLink RX4 10 "FlexiblePolicy" "plan" "LFlexiblePolicy$Plan;" ∈ wsX4_endMonth := by decide +kernel
set_option maxRecDepth 100000 in
theorem k_X4_endMonth_in4 : ∀ w ∈ u_ws RX4 TX4 6, w ∈ wsX4_endMonth := by decide +kernel
set_option maxRecDepth 100000 in
theorem k_X4_endMonth_f135 : Cond.fieldLink RX4 135 "FlexiblePolicy$Standing" "account" "I" ∈ wsX4_endMonth := by decide +kernel
set_option maxRecDepth 100000 in
theorem k_X4_endMonth_in3 : ∀ w ∈ u_ws RX3 TX3 7, w ∈ wsX4_endMonth := by decide +kernel
theorem nd_X4_endMonth : yX4_endMonth.cls = RX4 ∧ yX4_endMonth.cls ≠ "java/lang/invoke/MethodHandle" ∧ yX4_endMonth.cls ≠ "java/lang/invoke/VarHandle" ∧ (parseMethodDescriptor yX4_endMonth.desc).map (fun d => d.parameters.length) = some 2 := by decide +kernel
abbrev rm_X4_endMonth : Room := { frames := 3, cells := 0, slots := 0, locals := 73 }
set_option maxHeartbeats 4000000 in
set_option maxRecDepth 100000 in
theorem c_X4_endMonth (l : Launch) (G : GG) (h : Nat → Nat) (a : Nat) (n : Int32) (q : S3) (v : S7) (m : Int32) : CV l G yX4_endMonth wsX4_endMonth rm_X4_endMonth [.ref (h 0), .int m, .ref a] [cF h n, cP (h 1) q, cS a v] [cF h n, cP (h 1) q, cS a (F_X4_endMonth q v m)] := by
  refine CV_of (own := RX4) (by decide +kernel) rfl rfl (Nat.le_of_ble_eq_true rfl) ?_
  intro pP eE sS mM args below meth cC A S hK hr hlk hmn hW ls hl
  have hx := S.1
  have hb := S.2.1
  have hl : lv_has ls 3 [(0, .ref (h 0)), (1, .int m), (2, .ref a)] := hl
  have hW : Wd G A sS.heap [cF h n, cP (h 1) q, cS a v] sS.heap [] := hW
  refine lv_aload_n hx hb dX4_endMonth_0 rfl (lv_at hl 2 rfl) ?_
  refine k_callVi (C := RX3) (As := []) (rest := []) (wr := [cF h n, cP (h 1) q]) (c_X3_isLive l G a v) S hK hW gX4_endMonth_X3_isLive rfl ⟨rfl, rfl⟩ nd_X3_isLive ⟨rfl, rfl⟩ (qb := 2) (ci := 3) rfl rfl [2] [0, 1] rfl rfl rfl rfl (by decide) rfl hl.1 rfl dX4_endMonth_1 ⟨Nat.zero_le _, Nat.zero_le _⟩ (fun H locs hW => ?_)
  have hW : Wd G A sS.heap [cF h n, cP (h 1) q, cS a v] H locs := hW
  refine lv_if_eq (tgt := 28) hx hb dX4_endMonth_4 (by decide) (fun c_1 => ?_) (fun c_1 => ?_)
  ·
    have eF : (F_X4_endMonth q v m) = v := by
      unfold F_X4_endMonth
      rw [if_pos c_1]
    exact k_vret (wf := [cF h n, cP (h 1) q, cS a v]) S hr hlk hK hW [0, 1, 2] rfl rfl (congrArg (fun (z : S7) => [cF h n, cP (h 1) q, cS a z]) eF).symm dX4_endMonth_28
  ·
    refine lv_aload_n hx hb dX4_endMonth_7 rfl (lv_at hl 2 rfl) ?_
    refine lv_aload_n hx hb dX4_endMonth_8 rfl (lv_at hl 0 rfl) ?_
    refine k_get (C := RX4) (T := TX4) (N := 6) (ci := 4) (v := .ref (h 1)) S hK hW k_X4_endMonth_in4 0 0 rfl rfl (by decide) k_X4_endMonth_f10 rfl dX4_endMonth_9 ?_
    refine lv_aload_n hx hb dX4_endMonth_12 rfl (lv_at hl 2 rfl) ?_
    refine k_get (C := RX3) (T := TX3) (N := 7) (ci := 3) (v := .int v.2.1) S hK hW k_X4_endMonth_in3 2 1 rfl rfl (by decide) k_X4_endMonth_f135 rfl dX4_endMonth_13 ?_
    refine lv_iload_n hx hb dX4_endMonth_16 rfl (lv_at hl 1 rfl) ?_
    refine k_callVi (C := RX2) (As := [.int v.2.1, .int m]) (rest := [.ref a]) (wr := [cF h n, cS a v]) (c_X2_chargeFor l G (h 1) q v.2.1 m) S hK hW gX4_endMonth_X2_chargeFor rfl ⟨rfl, rfl⟩ nd_X2_chargeFor ⟨rfl, rfl⟩ (qb := 1) (ci := 2) rfl rfl [1] [0, 2] rfl rfl rfl rfl (by decide) rfl hl.1 rfl dX4_endMonth_17 ⟨Nat.zero_le _, Nat.zero_le _⟩ (fun H locs hW => ?_)
    have hW : Wd G A sS.heap [cF h n, cS a v, cP (h 1) q] H locs := hW
    refine lv_iload_n hx hb dX4_endMonth_20 rfl (lv_at hl 1 rfl) ?_
    refine k_callVv (C := RX3) (As := [.int (F_X2_chargeFor q v.2.1 m), .int m]) (rest := []) (wr := [cF h n, cP (h 1) q]) (c_X3_settle l G a v (F_X2_chargeFor q v.2.1 m) m) S hK hW gX4_endMonth_X3_settle rfl ⟨rfl, rfl⟩ nd_X3_settle ⟨rfl, rfl⟩ (qb := 1) (ci := 3) rfl rfl [1] [0, 2] rfl rfl rfl rfl (by decide) rfl hl.1 rfl dX4_endMonth_21 ⟨Nat.zero_le _, Nat.zero_le _⟩ (fun H locs hW => ?_)
    have hW : Wd G A sS.heap [cF h n, cP (h 1) q, cS a (F_X3_settle v (F_X2_chargeFor q v.2.1 m) m)] H locs := hW
    refine lv_aload_n hx hb dX4_endMonth_24 rfl (lv_at hl 2 rfl) ?_
    refine k_callVv (C := RX3) (As := []) (rest := []) (wr := [cF h n, cP (h 1) q]) (c_X3_addInterest l G a (F_X3_settle v (F_X2_chargeFor q v.2.1 m) m)) S hK hW gX4_endMonth_X3_addInterest rfl ⟨rfl, rfl⟩ nd_X3_addInterest ⟨rfl, rfl⟩ (qb := 2) (ci := 3) rfl rfl [2] [0, 1] rfl rfl rfl rfl (by decide) rfl hl.1 rfl dX4_endMonth_25 ⟨Nat.zero_le _, Nat.zero_le _⟩ (fun H locs hW => ?_)
    have hW : Wd G A sS.heap [cF h n, cP (h 1) q, cS a (F_X3_addInterest (F_X3_settle v (F_X2_chargeFor q v.2.1 m) m))] H locs := hW
    have eF : (F_X4_endMonth q v m) = (F_X3_addInterest (F_X3_settle v (F_X2_chargeFor q v.2.1 m) m)) := by
      unfold F_X4_endMonth
      rw [if_neg c_1]
    exact k_vret (wf := [cF h n, cP (h 1) q, cS a (F_X3_addInterest (F_X3_settle v (F_X2_chargeFor q v.2.1 m) m))]) S hr hlk hK hW [0, 1, 2] rfl rfl (congrArg (fun (z : S7) => [cF h n, cP (h 1) q, cS a z]) eF).symm dX4_endMonth_28
def F_X4_perform (c : Int32) (mo : (Nat → Int32)) (ki : (Nat → Int32)) (am : (Nat → Int32)) (q : S3) (v : S7) (x : Int32) : Bool × S7 :=
  if (F_X0_kindOf c ki x) = 0 then ((F_X3_takePremium v (F_X0_amountOf c am x)).1, ((F_X3_takePremium v (F_X0_amountOf c am x)).2))
  else (if (F_X0_kindOf c ki x) = 1 then ((F_X3_lend v (F_X0_amountOf c am x)).1, ((F_X3_lend v (F_X0_amountOf c am x)).2))
    else (if (F_X0_kindOf c ki x) = 2 then ((F_X3_repay v (F_X0_amountOf c am x)).1, ((F_X3_repay v (F_X0_amountOf c am x)).2))
      else (if (F_X0_kindOf c ki x) = 3 then ((F_X3_withdraw v (F_X0_amountOf c am x)).1, ((F_X3_withdraw v (F_X0_amountOf c am x)).2))
        else (if (F_X0_kindOf c ki x) = 4 then ((F_X3_revive v (F_X0_amountOf c am x) (F_X0_monthOf c mo x)).1, ((F_X3_revive v (F_X0_amountOf c am x) (F_X0_monthOf c mo x)).2))
          else (if (F_X0_kindOf c ki x) = 5 then ((F_X3_die v (F_X2_deathSumFor q v.2.1 (F_X0_monthOf c mo x))).1, ((F_X3_die v (F_X2_deathSumFor q v.2.1 (F_X0_monthOf c mo x))).2))
            else (false, v))))))
set_option maxRecDepth 100000 in
theorem k_X4_perform_f19 : Cond.fieldLink RX4 19 "FlexiblePolicy" "book" "LFlexiblePolicy$ActBook;" ∈ wsX4_perform := by decide +kernel
set_option maxRecDepth 100000 in
theorem k_X4_perform_in4 : ∀ w ∈ u_ws RX4 TX4 6, w ∈ wsX4_perform := by decide +kernel
set_option maxRecDepth 100000 in
theorem k_X4_perform_f10 : Cond.fieldLink RX4 10 "FlexiblePolicy" "plan" "LFlexiblePolicy$Plan;" ∈ wsX4_perform := by decide +kernel
set_option maxRecDepth 100000 in
theorem k_X4_perform_f135 : Cond.fieldLink RX4 135 "FlexiblePolicy$Standing" "account" "I" ∈ wsX4_perform := by decide +kernel
set_option maxRecDepth 100000 in
theorem k_X4_perform_in3 : ∀ w ∈ u_ws RX3 TX3 7, w ∈ wsX4_perform := by decide +kernel
theorem nd_X4_perform : yX4_perform.cls = RX4 ∧ yX4_perform.cls ≠ "java/lang/invoke/MethodHandle" ∧ yX4_perform.cls ≠ "java/lang/invoke/VarHandle" ∧ (parseMethodDescriptor yX4_perform.desc).map (fun d => d.parameters.length) = some 2 := by decide +kernel
abbrev rm_X4_perform : Room := { frames := 3, cells := 0, slots := 0, locals := 64 }
set_option maxHeartbeats 4000000 in
set_option maxRecDepth 100000 in
theorem c_X4_perform (l : Launch) (G : GG) (h : Nat → Nat) (a : Nat) (p : Int32) (c : Int32) (mo : (Nat → Int32)) (ki : (Nat → Int32)) (am : (Nat → Int32)) (q : S3) (v : S7) (x : Int32) : CI l G yX4_perform wsX4_perform rm_X4_perform [.ref (h 0), .int x, .ref a] [cF h p, cB h c, aI G (h 6) 60 mo, aI G (h 7) 60 ki, aI G (h 8) 60 am, cP (h 1) q, cS a v] (bI ((F_X4_perform c mo ki am q v x).1)) [cF h p, cB h c, aI G (h 6) 60 mo, aI G (h 7) 60 ki, aI G (h 8) 60 am, cP (h 1) q, cS a ((F_X4_perform c mo ki am q v x).2)] := by
  refine CI_of (own := RX4) (by decide +kernel) rfl rfl (Nat.le_of_ble_eq_true rfl) ?_
  intro pP eE sS mM args below meth cC A S hK hr hlk hmn hW ls hl
  have hx := S.1
  have hb := S.2.1
  have hl : lv_has ls 5 [(0, .ref (h 0)), (1, .int x), (2, .ref a)] := hl
  have hW : Wd G A sS.heap [cF h p, cB h c, aI G (h 6) 60 mo, aI G (h 7) 60 ki, aI G (h 8) 60 am, cP (h 1) q, cS a v] sS.heap [] := hW
  refine lv_aload_n hx hb dX4_perform_0 rfl (lv_at hl 0 rfl) ?_
  refine k_get (C := RX4) (T := TX4) (N := 6) (ci := 4) (v := .ref (h 2)) S hK hW k_X4_perform_in4 0 1 rfl rfl (by decide) k_X4_perform_f19 rfl dX4_perform_1 ?_
  refine lv_iload_n hx hb dX4_perform_4 rfl (lv_at hl 1 rfl) ?_
  refine k_callVi (C := RX0) (As := [.int x]) (rest := []) (wr := [cF h p, aI G (h 7) 60 ki, aI G (h 8) 60 am, cP (h 1) q, cS a v]) (c_X0_monthOf l G h c mo x) S hK hW gX4_perform_X0_monthOf rfl ⟨rfl, rfl⟩ nd_X0_monthOf ⟨rfl, rfl⟩ (qb := 1) (ci := 0) rfl rfl [1, 2] [0, 3, 4, 5, 6] rfl rfl rfl rfl (by decide) rfl hl.1 rfl dX4_perform_5 ⟨Nat.zero_le _, Nat.zero_le _⟩ (fun H locs hW => ?_)
  have hW : Wd G A sS.heap [cF h p, aI G (h 7) 60 ki, aI G (h 8) 60 am, cP (h 1) q, cS a v, cB h c, aI G (h 6) 60 mo] H locs := hW
  refine lv_istore_n (lv' := [(3, .int (F_X0_monthOf c mo x)), (0, .ref (h 0)), (1, .int x), (2, .ref a)]) hx hb dX4_perform_8 rfl hl (by decide) rfl (fun ls hl => ?_)
  refine lv_aload_n hx hb dX4_perform_9 rfl (lv_at hl 1 rfl) ?_
  refine k_get (C := RX4) (T := TX4) (N := 6) (ci := 4) (v := .ref (h 2)) S hK hW k_X4_perform_in4 0 1 rfl rfl (by decide) k_X4_perform_f19 rfl dX4_perform_10 ?_
  refine lv_iload_n hx hb dX4_perform_13 rfl (lv_at hl 2 rfl) ?_
  refine k_callVi (C := RX0) (As := [.int x]) (rest := []) (wr := [cF h p, aI G (h 7) 60 ki, cP (h 1) q, cS a v, aI G (h 6) 60 mo]) (c_X0_amountOf l G h c am x) S hK hW gX4_perform_X0_amountOf rfl ⟨rfl, rfl⟩ nd_X0_amountOf ⟨rfl, rfl⟩ (qb := 5) (ci := 0) rfl rfl [5, 2] [0, 1, 3, 4, 6] rfl rfl rfl rfl (by decide) rfl hl.1 rfl dX4_perform_14 ⟨Nat.zero_le _, Nat.zero_le _⟩ (fun H locs hW => ?_)
  have hW : Wd G A sS.heap [cF h p, aI G (h 7) 60 ki, cP (h 1) q, cS a v, aI G (h 6) 60 mo, cB h c, aI G (h 8) 60 am] H locs := hW
  refine lv_istore (lv' := [(4, .int (F_X0_amountOf c am x)), (3, .int (F_X0_monthOf c mo x)), (0, .ref (h 0)), (1, .int x), (2, .ref a)]) hx hb dX4_perform_17 hl (by decide) rfl (fun ls hl => ?_)
  refine lv_aload_n hx hb dX4_perform_19 rfl (lv_at hl 2 rfl) ?_
  refine k_get (C := RX4) (T := TX4) (N := 6) (ci := 4) (v := .ref (h 2)) S hK hW k_X4_perform_in4 0 1 rfl rfl (by decide) k_X4_perform_f19 rfl dX4_perform_20 ?_
  refine lv_iload_n hx hb dX4_perform_23 rfl (lv_at hl 3 rfl) ?_
  refine k_callVi (C := RX0) (As := [.int x]) (rest := []) (wr := [cF h p, cP (h 1) q, cS a v, aI G (h 6) 60 mo, aI G (h 8) 60 am]) (c_X0_kindOf l G h c ki x) S hK hW gX4_perform_X0_kindOf rfl ⟨rfl, rfl⟩ nd_X0_kindOf ⟨rfl, rfl⟩ (qb := 5) (ci := 0) rfl rfl [5, 1] [0, 2, 3, 4, 6] rfl rfl rfl rfl (by decide) rfl hl.1 rfl dX4_perform_24 ⟨Nat.zero_le _, Nat.zero_le _⟩ (fun H locs hW => ?_)
  have hW : Wd G A sS.heap [cF h p, cP (h 1) q, cS a v, aI G (h 6) 60 mo, aI G (h 8) 60 am, cB h c, aI G (h 7) 60 ki] H locs := hW
  by_cases c_1 : (F_X0_kindOf c ki x) = 0
  ·
    refine lv_tableIn (off := 37) (tgt := 64) hx hb dX4_perform_27 (by rw [c_1]; decide) (by rw [c_1]; decide) (by rw [c_1]; rfl) (by decide) ?_
    refine lv_aload_n hx hb dX4_perform_64 rfl (lv_at hl 4 rfl) ?_
    refine lv_iload hx hb dX4_perform_65 (lv_at hl 0 rfl) ?_
    refine k_callVi (C := RX3) (As := [.int (F_X0_amountOf c am x)]) (rest := []) (wr := [cF h p, cP (h 1) q, aI G (h 6) 60 mo, aI G (h 8) 60 am, cB h c, aI G (h 7) 60 ki]) (c_X3_takePremium l G a v (F_X0_amountOf c am x)) S hK hW gX4_perform_X3_takePremium rfl ⟨rfl, rfl⟩ nd_X3_takePremium ⟨rfl, rfl⟩ (qb := 2) (ci := 3) rfl rfl [2] [0, 1, 3, 4, 5, 6] rfl rfl rfl rfl (by decide) rfl hl.1 rfl dX4_perform_67 ⟨Nat.zero_le _, Nat.zero_le _⟩ (fun H locs hW => ?_)
    have hW : Wd G A sS.heap [cF h p, cP (h 1) q, aI G (h 6) 60 mo, aI G (h 8) 60 am, cB h c, aI G (h 7) 60 ki, cS a ((F_X3_takePremium v (F_X0_amountOf c am x)).2)] H locs := hW
    have eF : (F_X4_perform c mo ki am q v x) = ((F_X3_takePremium v (F_X0_amountOf c am x)).1, ((F_X3_takePremium v (F_X0_amountOf c am x)).2)) := by
      unfold F_X4_perform
      rw [if_pos c_1]
    exact k_zret (wf := [cF h p, cB h c, aI G (h 6) 60 mo, aI G (h 7) 60 ki, aI G (h 8) 60 am, cP (h 1) q, cS a ((F_X3_takePremium v (F_X0_amountOf c am x)).2)]) S hr hlk hK hW [0, 4, 2, 5, 3, 1, 6] rfl rfl (congrArg (fun (z : Bool × S7) => [cF h p, cB h c, aI G (h 6) 60 mo, aI G (h 7) 60 ki, aI G (h 8) 60 am, cP (h 1) q, cS a z.2]) eF).symm (congrArg (fun (z : Bool × S7) => bI z.1) eF).symm dX4_perform_70
  ·
    by_cases c_2 : (F_X0_kindOf c ki x) = 1
    ·
      refine lv_tableIn (off := 44) (tgt := 71) hx hb dX4_perform_27 (by rw [c_2]; decide) (by rw [c_2]; decide) (by rw [c_2]; rfl) (by decide) ?_
      refine lv_aload_n hx hb dX4_perform_71 rfl (lv_at hl 4 rfl) ?_
      refine lv_iload hx hb dX4_perform_72 (lv_at hl 0 rfl) ?_
      refine k_callVi (C := RX3) (As := [.int (F_X0_amountOf c am x)]) (rest := []) (wr := [cF h p, cP (h 1) q, aI G (h 6) 60 mo, aI G (h 8) 60 am, cB h c, aI G (h 7) 60 ki]) (c_X3_lend l G a v (F_X0_amountOf c am x)) S hK hW gX4_perform_X3_lend rfl ⟨rfl, rfl⟩ nd_X3_lend ⟨rfl, rfl⟩ (qb := 2) (ci := 3) rfl rfl [2] [0, 1, 3, 4, 5, 6] rfl rfl rfl rfl (by decide) rfl hl.1 rfl dX4_perform_74 ⟨Nat.zero_le _, Nat.zero_le _⟩ (fun H locs hW => ?_)
      have hW : Wd G A sS.heap [cF h p, cP (h 1) q, aI G (h 6) 60 mo, aI G (h 8) 60 am, cB h c, aI G (h 7) 60 ki, cS a ((F_X3_lend v (F_X0_amountOf c am x)).2)] H locs := hW
      have eF : (F_X4_perform c mo ki am q v x) = ((F_X3_lend v (F_X0_amountOf c am x)).1, ((F_X3_lend v (F_X0_amountOf c am x)).2)) := by
        unfold F_X4_perform
        rw [if_neg c_1, if_pos c_2]
      exact k_zret (wf := [cF h p, cB h c, aI G (h 6) 60 mo, aI G (h 7) 60 ki, aI G (h 8) 60 am, cP (h 1) q, cS a ((F_X3_lend v (F_X0_amountOf c am x)).2)]) S hr hlk hK hW [0, 4, 2, 5, 3, 1, 6] rfl rfl (congrArg (fun (z : Bool × S7) => [cF h p, cB h c, aI G (h 6) 60 mo, aI G (h 7) 60 ki, aI G (h 8) 60 am, cP (h 1) q, cS a z.2]) eF).symm (congrArg (fun (z : Bool × S7) => bI z.1) eF).symm dX4_perform_77
    ·
      by_cases c_3 : (F_X0_kindOf c ki x) = 2
      ·
        refine lv_tableIn (off := 51) (tgt := 78) hx hb dX4_perform_27 (by rw [c_3]; decide) (by rw [c_3]; decide) (by rw [c_3]; rfl) (by decide) ?_
        refine lv_aload_n hx hb dX4_perform_78 rfl (lv_at hl 4 rfl) ?_
        refine lv_iload hx hb dX4_perform_79 (lv_at hl 0 rfl) ?_
        refine k_callVi (C := RX3) (As := [.int (F_X0_amountOf c am x)]) (rest := []) (wr := [cF h p, cP (h 1) q, aI G (h 6) 60 mo, aI G (h 8) 60 am, cB h c, aI G (h 7) 60 ki]) (c_X3_repay l G a v (F_X0_amountOf c am x)) S hK hW gX4_perform_X3_repay rfl ⟨rfl, rfl⟩ nd_X3_repay ⟨rfl, rfl⟩ (qb := 2) (ci := 3) rfl rfl [2] [0, 1, 3, 4, 5, 6] rfl rfl rfl rfl (by decide) rfl hl.1 rfl dX4_perform_81 ⟨Nat.zero_le _, Nat.zero_le _⟩ (fun H locs hW => ?_)
        have hW : Wd G A sS.heap [cF h p, cP (h 1) q, aI G (h 6) 60 mo, aI G (h 8) 60 am, cB h c, aI G (h 7) 60 ki, cS a ((F_X3_repay v (F_X0_amountOf c am x)).2)] H locs := hW
        have eF : (F_X4_perform c mo ki am q v x) = ((F_X3_repay v (F_X0_amountOf c am x)).1, ((F_X3_repay v (F_X0_amountOf c am x)).2)) := by
          unfold F_X4_perform
          rw [if_neg c_1, if_neg c_2, if_pos c_3]
        exact k_zret (wf := [cF h p, cB h c, aI G (h 6) 60 mo, aI G (h 7) 60 ki, aI G (h 8) 60 am, cP (h 1) q, cS a ((F_X3_repay v (F_X0_amountOf c am x)).2)]) S hr hlk hK hW [0, 4, 2, 5, 3, 1, 6] rfl rfl (congrArg (fun (z : Bool × S7) => [cF h p, cB h c, aI G (h 6) 60 mo, aI G (h 7) 60 ki, aI G (h 8) 60 am, cP (h 1) q, cS a z.2]) eF).symm (congrArg (fun (z : Bool × S7) => bI z.1) eF).symm dX4_perform_84
      ·
        by_cases c_4 : (F_X0_kindOf c ki x) = 3
        ·
          refine lv_tableIn (off := 58) (tgt := 85) hx hb dX4_perform_27 (by rw [c_4]; decide) (by rw [c_4]; decide) (by rw [c_4]; rfl) (by decide) ?_
          refine lv_aload_n hx hb dX4_perform_85 rfl (lv_at hl 4 rfl) ?_
          refine lv_iload hx hb dX4_perform_86 (lv_at hl 0 rfl) ?_
          refine k_callVi (C := RX3) (As := [.int (F_X0_amountOf c am x)]) (rest := []) (wr := [cF h p, cP (h 1) q, aI G (h 6) 60 mo, aI G (h 8) 60 am, cB h c, aI G (h 7) 60 ki]) (c_X3_withdraw l G a v (F_X0_amountOf c am x)) S hK hW gX4_perform_X3_withdraw rfl ⟨rfl, rfl⟩ nd_X3_withdraw ⟨rfl, rfl⟩ (qb := 2) (ci := 3) rfl rfl [2] [0, 1, 3, 4, 5, 6] rfl rfl rfl rfl (by decide) rfl hl.1 rfl dX4_perform_88 ⟨Nat.zero_le _, Nat.zero_le _⟩ (fun H locs hW => ?_)
          have hW : Wd G A sS.heap [cF h p, cP (h 1) q, aI G (h 6) 60 mo, aI G (h 8) 60 am, cB h c, aI G (h 7) 60 ki, cS a ((F_X3_withdraw v (F_X0_amountOf c am x)).2)] H locs := hW
          have eF : (F_X4_perform c mo ki am q v x) = ((F_X3_withdraw v (F_X0_amountOf c am x)).1, ((F_X3_withdraw v (F_X0_amountOf c am x)).2)) := by
            unfold F_X4_perform
            rw [if_neg c_1, if_neg c_2, if_neg c_3, if_pos c_4]
          exact k_zret (wf := [cF h p, cB h c, aI G (h 6) 60 mo, aI G (h 7) 60 ki, aI G (h 8) 60 am, cP (h 1) q, cS a ((F_X3_withdraw v (F_X0_amountOf c am x)).2)]) S hr hlk hK hW [0, 4, 2, 5, 3, 1, 6] rfl rfl (congrArg (fun (z : Bool × S7) => [cF h p, cB h c, aI G (h 6) 60 mo, aI G (h 7) 60 ki, aI G (h 8) 60 am, cP (h 1) q, cS a z.2]) eF).symm (congrArg (fun (z : Bool × S7) => bI z.1) eF).symm dX4_perform_91
        ·
          by_cases c_5 : (F_X0_kindOf c ki x) = 4
          ·
            refine lv_tableIn (off := 65) (tgt := 92) hx hb dX4_perform_27 (by rw [c_5]; decide) (by rw [c_5]; decide) (by rw [c_5]; rfl) (by decide) ?_
            refine lv_aload_n hx hb dX4_perform_92 rfl (lv_at hl 4 rfl) ?_
            refine lv_iload hx hb dX4_perform_93 (lv_at hl 0 rfl) ?_
            refine lv_iload_n hx hb dX4_perform_95 rfl (lv_at hl 1 rfl) ?_
            refine k_callVi (C := RX3) (As := [.int (F_X0_amountOf c am x), .int (F_X0_monthOf c mo x)]) (rest := []) (wr := [cF h p, cP (h 1) q, aI G (h 6) 60 mo, aI G (h 8) 60 am, cB h c, aI G (h 7) 60 ki]) (c_X3_revive l G a v (F_X0_amountOf c am x) (F_X0_monthOf c mo x)) S hK hW gX4_perform_X3_revive rfl ⟨rfl, rfl⟩ nd_X3_revive ⟨rfl, rfl⟩ (qb := 2) (ci := 3) rfl rfl [2] [0, 1, 3, 4, 5, 6] rfl rfl rfl rfl (by decide) rfl hl.1 rfl dX4_perform_96 ⟨Nat.zero_le _, Nat.zero_le _⟩ (fun H locs hW => ?_)
            have hW : Wd G A sS.heap [cF h p, cP (h 1) q, aI G (h 6) 60 mo, aI G (h 8) 60 am, cB h c, aI G (h 7) 60 ki, cS a ((F_X3_revive v (F_X0_amountOf c am x) (F_X0_monthOf c mo x)).2)] H locs := hW
            have eF : (F_X4_perform c mo ki am q v x) = ((F_X3_revive v (F_X0_amountOf c am x) (F_X0_monthOf c mo x)).1, ((F_X3_revive v (F_X0_amountOf c am x) (F_X0_monthOf c mo x)).2)) := by
              unfold F_X4_perform
              rw [if_neg c_1, if_neg c_2, if_neg c_3, if_neg c_4, if_pos c_5]
            exact k_zret (wf := [cF h p, cB h c, aI G (h 6) 60 mo, aI G (h 7) 60 ki, aI G (h 8) 60 am, cP (h 1) q, cS a ((F_X3_revive v (F_X0_amountOf c am x) (F_X0_monthOf c mo x)).2)]) S hr hlk hK hW [0, 4, 2, 5, 3, 1, 6] rfl rfl (congrArg (fun (z : Bool × S7) => [cF h p, cB h c, aI G (h 6) 60 mo, aI G (h 7) 60 ki, aI G (h 8) 60 am, cP (h 1) q, cS a z.2]) eF).symm (congrArg (fun (z : Bool × S7) => bI z.1) eF).symm dX4_perform_99
          ·
            by_cases c_6 : (F_X0_kindOf c ki x) = 5
            ·
              refine lv_tableIn (off := 73) (tgt := 100) hx hb dX4_perform_27 (by rw [c_6]; decide) (by rw [c_6]; decide) (by rw [c_6]; rfl) (by decide) ?_
              refine lv_aload_n hx hb dX4_perform_100 rfl (lv_at hl 4 rfl) ?_
              refine lv_aload_n hx hb dX4_perform_101 rfl (lv_at hl 2 rfl) ?_
              refine k_get (C := RX4) (T := TX4) (N := 6) (ci := 4) (v := .ref (h 1)) S hK hW k_X4_perform_in4 0 0 rfl rfl (by decide) k_X4_perform_f10 rfl dX4_perform_102 ?_
              refine lv_aload_n hx hb dX4_perform_105 rfl (lv_at hl 4 rfl) ?_
              refine k_get (C := RX3) (T := TX3) (N := 7) (ci := 3) (v := .int v.2.1) S hK hW k_X4_perform_in3 2 1 rfl rfl (by decide) k_X4_perform_f135 rfl dX4_perform_106 ?_
              refine lv_iload_n hx hb dX4_perform_109 rfl (lv_at hl 1 rfl) ?_
              refine k_callVi (C := RX2) (As := [.int v.2.1, .int (F_X0_monthOf c mo x)]) (rest := [.ref a]) (wr := [cF h p, cS a v, aI G (h 6) 60 mo, aI G (h 8) 60 am, cB h c, aI G (h 7) 60 ki]) (c_X2_deathSumFor l G (h 1) q v.2.1 (F_X0_monthOf c mo x)) S hK hW gX4_perform_X2_deathSumFor rfl ⟨rfl, rfl⟩ nd_X2_deathSumFor ⟨rfl, rfl⟩ (qb := 1) (ci := 2) rfl rfl [1] [0, 2, 3, 4, 5, 6] rfl rfl rfl rfl (by decide) rfl hl.1 rfl dX4_perform_110 ⟨Nat.zero_le _, Nat.zero_le _⟩ (fun H locs hW => ?_)
              have hW : Wd G A sS.heap [cF h p, cS a v, aI G (h 6) 60 mo, aI G (h 8) 60 am, cB h c, aI G (h 7) 60 ki, cP (h 1) q] H locs := hW
              refine k_callVi (C := RX3) (As := [.int (F_X2_deathSumFor q v.2.1 (F_X0_monthOf c mo x))]) (rest := []) (wr := [cF h p, aI G (h 6) 60 mo, aI G (h 8) 60 am, cB h c, aI G (h 7) 60 ki, cP (h 1) q]) (c_X3_die l G a v (F_X2_deathSumFor q v.2.1 (F_X0_monthOf c mo x))) S hK hW gX4_perform_X3_die rfl ⟨rfl, rfl⟩ nd_X3_die ⟨rfl, rfl⟩ (qb := 1) (ci := 3) rfl rfl [1] [0, 2, 3, 4, 5, 6] rfl rfl rfl rfl (by decide) rfl hl.1 rfl dX4_perform_113 ⟨Nat.zero_le _, Nat.zero_le _⟩ (fun H locs hW => ?_)
              have hW : Wd G A sS.heap [cF h p, aI G (h 6) 60 mo, aI G (h 8) 60 am, cB h c, aI G (h 7) 60 ki, cP (h 1) q, cS a ((F_X3_die v (F_X2_deathSumFor q v.2.1 (F_X0_monthOf c mo x))).2)] H locs := hW
              have eF : (F_X4_perform c mo ki am q v x) = ((F_X3_die v (F_X2_deathSumFor q v.2.1 (F_X0_monthOf c mo x))).1, ((F_X3_die v (F_X2_deathSumFor q v.2.1 (F_X0_monthOf c mo x))).2)) := by
                unfold F_X4_perform
                rw [if_neg c_1, if_neg c_2, if_neg c_3, if_neg c_4, if_neg c_5, if_pos c_6]
              exact k_zret (wf := [cF h p, cB h c, aI G (h 6) 60 mo, aI G (h 7) 60 ki, aI G (h 8) 60 am, cP (h 1) q, cS a ((F_X3_die v (F_X2_deathSumFor q v.2.1 (F_X0_monthOf c mo x))).2)]) S hr hlk hK hW [0, 3, 1, 4, 2, 5, 6] rfl rfl (congrArg (fun (z : Bool × S7) => [cF h p, cB h c, aI G (h 6) 60 mo, aI G (h 7) 60 ki, aI G (h 8) 60 am, cP (h 1) q, cS a z.2]) eF).symm (congrArg (fun (z : Bool × S7) => bI z.1) eF).symm dX4_perform_116
            ·
              refine lv_tableOut (tgt := 117) hx hb dX4_perform_27 (sw_out5 c_1 c_2 c_3 c_4 c_5 c_6) (by decide) ?_
              refine lv_iconst (v := 0) hx hb dX4_perform_117 (by decide) ?_
              have eF : (F_X4_perform c mo ki am q v x) = (false, v) := by
                unfold F_X4_perform
                rw [if_neg c_1, if_neg c_2, if_neg c_3, if_neg c_4, if_neg c_5, if_neg c_6]
              exact k_zret (wf := [cF h p, cB h c, aI G (h 6) 60 mo, aI G (h 7) 60 ki, aI G (h 8) 60 am, cP (h 1) q, cS a v]) S hr hlk hK hW [0, 5, 3, 6, 4, 1, 2] rfl rfl (congrArg (fun (z : Bool × S7) => [cF h p, cB h c, aI G (h 6) 60 mo, aI G (h 7) 60 ki, aI G (h 8) 60 am, cP (h 1) q, cS a z.2]) eF).symm (congrArg (fun (z : Bool × S7) => bI z.1) eF).symm dX4_perform_118
def F_X4_state (v : S7) : Int32 :=
  v.1
set_option maxRecDepth 100000 in
theorem k_X4_state_f33 : Cond.fieldLink RX4 33 "FlexiblePolicy" "now" "LFlexiblePolicy$Standing;" ∈ wsX4_state := by decide +kernel
set_option maxRecDepth 100000 in
theorem k_X4_state_in4 : ∀ w ∈ u_ws RX4 TX4 6, w ∈ wsX4_state := by decide +kernel
set_option maxRecDepth 100000 in
theorem k_X4_state_f132 : Cond.fieldLink RX4 132 "FlexiblePolicy$Standing" "state" "I" ∈ wsX4_state := by decide +kernel
set_option maxRecDepth 100000 in
theorem k_X4_state_in3 : ∀ w ∈ u_ws RX3 TX3 7, w ∈ wsX4_state := by decide +kernel
theorem nd_X4_state : yX4_state.cls = RX4 ∧ yX4_state.cls ≠ "java/lang/invoke/MethodHandle" ∧ yX4_state.cls ≠ "java/lang/invoke/VarHandle" ∧ (parseMethodDescriptor yX4_state.desc).map (fun d => d.parameters.length) = some 0 := by decide +kernel
abbrev rm_X4_state : Room := { frames := 0, cells := 0, slots := 0, locals := 0 }
set_option maxHeartbeats 4000000 in
set_option maxRecDepth 100000 in
theorem c_X4_state (l : Launch) (G : GG) (h : Nat → Nat) (p : Int32) (v : S7) : CI l G yX4_state wsX4_state rm_X4_state [.ref (h 0)] [cF h p, cS (h 4) v] (F_X4_state v) [cF h p, cS (h 4) v] := by
  refine CI_of (own := RX4) (by decide +kernel) rfl rfl (Nat.le_of_ble_eq_true rfl) ?_
  intro pP eE sS mM args below meth cC A S hK hr hlk hmn hW ls hl
  have hx := S.1
  have hb := S.2.1
  have hl : lv_has ls 1 [(0, .ref (h 0))] := hl
  have hW : Wd G A sS.heap [cF h p, cS (h 4) v] sS.heap [] := hW
  refine lv_aload_n hx hb dX4_state_0 rfl (lv_at hl 0 rfl) ?_
  refine k_get (C := RX4) (T := TX4) (N := 6) (ci := 4) (v := .ref (h 4)) S hK hW k_X4_state_in4 0 3 rfl rfl (by decide) k_X4_state_f33 rfl dX4_state_1 ?_
  refine k_get (C := RX3) (T := TX3) (N := 7) (ci := 3) (v := .int v.1) S hK hW k_X4_state_in3 1 0 rfl rfl (by decide) k_X4_state_f132 rfl dX4_state_4 ?_
  have eF : (F_X4_state v) = v.1 := by
    rfl
  exact k_iret (wf := [cF h p, cS (h 4) v]) S hr hlk hK hW [0, 1] rfl rfl rfl (congrArg (fun (z : Int32) => z) eF).symm dX4_state_7
def F_X4_account (v : S7) : Int32 :=
  v.2.1
set_option maxRecDepth 100000 in
theorem k_X4_account_f33 : Cond.fieldLink RX4 33 "FlexiblePolicy" "now" "LFlexiblePolicy$Standing;" ∈ wsX4_account := by decide +kernel
set_option maxRecDepth 100000 in
theorem k_X4_account_in4 : ∀ w ∈ u_ws RX4 TX4 6, w ∈ wsX4_account := by decide +kernel
set_option maxRecDepth 100000 in
theorem k_X4_account_f135 : Cond.fieldLink RX4 135 "FlexiblePolicy$Standing" "account" "I" ∈ wsX4_account := by decide +kernel
set_option maxRecDepth 100000 in
theorem k_X4_account_in3 : ∀ w ∈ u_ws RX3 TX3 7, w ∈ wsX4_account := by decide +kernel
theorem nd_X4_account : yX4_account.cls = RX4 ∧ yX4_account.cls ≠ "java/lang/invoke/MethodHandle" ∧ yX4_account.cls ≠ "java/lang/invoke/VarHandle" ∧ (parseMethodDescriptor yX4_account.desc).map (fun d => d.parameters.length) = some 0 := by decide +kernel
abbrev rm_X4_account : Room := { frames := 0, cells := 0, slots := 0, locals := 0 }
set_option maxHeartbeats 4000000 in
set_option maxRecDepth 100000 in
theorem c_X4_account (l : Launch) (G : GG) (h : Nat → Nat) (p : Int32) (v : S7) : CI l G yX4_account wsX4_account rm_X4_account [.ref (h 0)] [cF h p, cS (h 4) v] (F_X4_account v) [cF h p, cS (h 4) v] := by
  refine CI_of (own := RX4) (by decide +kernel) rfl rfl (Nat.le_of_ble_eq_true rfl) ?_
  intro pP eE sS mM args below meth cC A S hK hr hlk hmn hW ls hl
  have hx := S.1
  have hb := S.2.1
  have hl : lv_has ls 1 [(0, .ref (h 0))] := hl
  have hW : Wd G A sS.heap [cF h p, cS (h 4) v] sS.heap [] := hW
  refine lv_aload_n hx hb dX4_account_0 rfl (lv_at hl 0 rfl) ?_
  refine k_get (C := RX4) (T := TX4) (N := 6) (ci := 4) (v := .ref (h 4)) S hK hW k_X4_account_in4 0 3 rfl rfl (by decide) k_X4_account_f33 rfl dX4_account_1 ?_
  refine k_get (C := RX3) (T := TX3) (N := 7) (ci := 3) (v := .int v.2.1) S hK hW k_X4_account_in3 1 1 rfl rfl (by decide) k_X4_account_f135 rfl dX4_account_4 ?_
  have eF : (F_X4_account v) = v.2.1 := by
    rfl
  exact k_iret (wf := [cF h p, cS (h 4) v]) S hr hlk hK hW [0, 1] rfl rfl rfl (congrArg (fun (z : Int32) => z) eF).symm dX4_account_7
def F_X4_loan (v : S7) : Int32 :=
  v.2.2.1
set_option maxRecDepth 100000 in
theorem k_X4_loan_f33 : Cond.fieldLink RX4 33 "FlexiblePolicy" "now" "LFlexiblePolicy$Standing;" ∈ wsX4_loan := by decide +kernel
set_option maxRecDepth 100000 in
theorem k_X4_loan_in4 : ∀ w ∈ u_ws RX4 TX4 6, w ∈ wsX4_loan := by decide +kernel
set_option maxRecDepth 100000 in
theorem k_X4_loan_f138 : Cond.fieldLink RX4 138 "FlexiblePolicy$Standing" "loan" "I" ∈ wsX4_loan := by decide +kernel
set_option maxRecDepth 100000 in
theorem k_X4_loan_in3 : ∀ w ∈ u_ws RX3 TX3 7, w ∈ wsX4_loan := by decide +kernel
theorem nd_X4_loan : yX4_loan.cls = RX4 ∧ yX4_loan.cls ≠ "java/lang/invoke/MethodHandle" ∧ yX4_loan.cls ≠ "java/lang/invoke/VarHandle" ∧ (parseMethodDescriptor yX4_loan.desc).map (fun d => d.parameters.length) = some 0 := by decide +kernel
abbrev rm_X4_loan : Room := { frames := 0, cells := 0, slots := 0, locals := 0 }
set_option maxHeartbeats 4000000 in
set_option maxRecDepth 100000 in
theorem c_X4_loan (l : Launch) (G : GG) (h : Nat → Nat) (p : Int32) (v : S7) : CI l G yX4_loan wsX4_loan rm_X4_loan [.ref (h 0)] [cF h p, cS (h 4) v] (F_X4_loan v) [cF h p, cS (h 4) v] := by
  refine CI_of (own := RX4) (by decide +kernel) rfl rfl (Nat.le_of_ble_eq_true rfl) ?_
  intro pP eE sS mM args below meth cC A S hK hr hlk hmn hW ls hl
  have hx := S.1
  have hb := S.2.1
  have hl : lv_has ls 1 [(0, .ref (h 0))] := hl
  have hW : Wd G A sS.heap [cF h p, cS (h 4) v] sS.heap [] := hW
  refine lv_aload_n hx hb dX4_loan_0 rfl (lv_at hl 0 rfl) ?_
  refine k_get (C := RX4) (T := TX4) (N := 6) (ci := 4) (v := .ref (h 4)) S hK hW k_X4_loan_in4 0 3 rfl rfl (by decide) k_X4_loan_f33 rfl dX4_loan_1 ?_
  refine k_get (C := RX3) (T := TX3) (N := 7) (ci := 3) (v := .int v.2.2.1) S hK hW k_X4_loan_in3 1 2 rfl rfl (by decide) k_X4_loan_f138 rfl dX4_loan_4 ?_
  have eF : (F_X4_loan v) = v.2.2.1 := by
    rfl
  exact k_iret (wf := [cF h p, cS (h 4) v]) S hr hlk hK hW [0, 1] rfl rfl rfl (congrArg (fun (z : Int32) => z) eF).symm dX4_loan_7
def F_X4_arrears (v : S7) : Int32 :=
  v.2.2.2.1
set_option maxRecDepth 100000 in
theorem k_X4_arrears_f33 : Cond.fieldLink RX4 33 "FlexiblePolicy" "now" "LFlexiblePolicy$Standing;" ∈ wsX4_arrears := by decide +kernel
set_option maxRecDepth 100000 in
theorem k_X4_arrears_in4 : ∀ w ∈ u_ws RX4 TX4 6, w ∈ wsX4_arrears := by decide +kernel
set_option maxRecDepth 100000 in
theorem k_X4_arrears_f141 : Cond.fieldLink RX4 141 "FlexiblePolicy$Standing" "arrears" "I" ∈ wsX4_arrears := by decide +kernel
set_option maxRecDepth 100000 in
theorem k_X4_arrears_in3 : ∀ w ∈ u_ws RX3 TX3 7, w ∈ wsX4_arrears := by decide +kernel
theorem nd_X4_arrears : yX4_arrears.cls = RX4 ∧ yX4_arrears.cls ≠ "java/lang/invoke/MethodHandle" ∧ yX4_arrears.cls ≠ "java/lang/invoke/VarHandle" ∧ (parseMethodDescriptor yX4_arrears.desc).map (fun d => d.parameters.length) = some 0 := by decide +kernel
abbrev rm_X4_arrears : Room := { frames := 0, cells := 0, slots := 0, locals := 0 }
set_option maxHeartbeats 4000000 in
set_option maxRecDepth 100000 in
theorem c_X4_arrears (l : Launch) (G : GG) (h : Nat → Nat) (p : Int32) (v : S7) : CI l G yX4_arrears wsX4_arrears rm_X4_arrears [.ref (h 0)] [cF h p, cS (h 4) v] (F_X4_arrears v) [cF h p, cS (h 4) v] := by
  refine CI_of (own := RX4) (by decide +kernel) rfl rfl (Nat.le_of_ble_eq_true rfl) ?_
  intro pP eE sS mM args below meth cC A S hK hr hlk hmn hW ls hl
  have hx := S.1
  have hb := S.2.1
  have hl : lv_has ls 1 [(0, .ref (h 0))] := hl
  have hW : Wd G A sS.heap [cF h p, cS (h 4) v] sS.heap [] := hW
  refine lv_aload_n hx hb dX4_arrears_0 rfl (lv_at hl 0 rfl) ?_
  refine k_get (C := RX4) (T := TX4) (N := 6) (ci := 4) (v := .ref (h 4)) S hK hW k_X4_arrears_in4 0 3 rfl rfl (by decide) k_X4_arrears_f33 rfl dX4_arrears_1 ?_
  refine k_get (C := RX3) (T := TX3) (N := 7) (ci := 3) (v := .int v.2.2.2.1) S hK hW k_X4_arrears_in3 1 3 rfl rfl (by decide) k_X4_arrears_f141 rfl dX4_arrears_4 ?_
  have eF : (F_X4_arrears v) = v.2.2.2.1 := by
    rfl
  exact k_iret (wf := [cF h p, cS (h 4) v]) S hr hlk hK hW [0, 1] rfl rfl rfl (congrArg (fun (z : Int32) => z) eF).symm dX4_arrears_7
def F_X4_grace (v : S7) : Int32 :=
  v.2.2.2.2.1
set_option maxRecDepth 100000 in
theorem k_X4_grace_f33 : Cond.fieldLink RX4 33 "FlexiblePolicy" "now" "LFlexiblePolicy$Standing;" ∈ wsX4_grace := by decide +kernel
set_option maxRecDepth 100000 in
theorem k_X4_grace_in4 : ∀ w ∈ u_ws RX4 TX4 6, w ∈ wsX4_grace := by decide +kernel
set_option maxRecDepth 100000 in
theorem k_X4_grace_f157 : Cond.fieldLink RX4 157 "FlexiblePolicy$Standing" "grace" "I" ∈ wsX4_grace := by decide +kernel
set_option maxRecDepth 100000 in
theorem k_X4_grace_in3 : ∀ w ∈ u_ws RX3 TX3 7, w ∈ wsX4_grace := by decide +kernel
theorem nd_X4_grace : yX4_grace.cls = RX4 ∧ yX4_grace.cls ≠ "java/lang/invoke/MethodHandle" ∧ yX4_grace.cls ≠ "java/lang/invoke/VarHandle" ∧ (parseMethodDescriptor yX4_grace.desc).map (fun d => d.parameters.length) = some 0 := by decide +kernel
abbrev rm_X4_grace : Room := { frames := 0, cells := 0, slots := 0, locals := 0 }
set_option maxHeartbeats 4000000 in
set_option maxRecDepth 100000 in
theorem c_X4_grace (l : Launch) (G : GG) (h : Nat → Nat) (p : Int32) (v : S7) : CI l G yX4_grace wsX4_grace rm_X4_grace [.ref (h 0)] [cF h p, cS (h 4) v] (F_X4_grace v) [cF h p, cS (h 4) v] := by
  refine CI_of (own := RX4) (by decide +kernel) rfl rfl (Nat.le_of_ble_eq_true rfl) ?_
  intro pP eE sS mM args below meth cC A S hK hr hlk hmn hW ls hl
  have hx := S.1
  have hb := S.2.1
  have hl : lv_has ls 1 [(0, .ref (h 0))] := hl
  have hW : Wd G A sS.heap [cF h p, cS (h 4) v] sS.heap [] := hW
  refine lv_aload_n hx hb dX4_grace_0 rfl (lv_at hl 0 rfl) ?_
  refine k_get (C := RX4) (T := TX4) (N := 6) (ci := 4) (v := .ref (h 4)) S hK hW k_X4_grace_in4 0 3 rfl rfl (by decide) k_X4_grace_f33 rfl dX4_grace_1 ?_
  refine k_get (C := RX3) (T := TX3) (N := 7) (ci := 3) (v := .int v.2.2.2.2.1) S hK hW k_X4_grace_in3 1 4 rfl rfl (by decide) k_X4_grace_f157 rfl dX4_grace_4 ?_
  have eF : (F_X4_grace v) = v.2.2.2.2.1 := by
    rfl
  exact k_iret (wf := [cF h p, cS (h 4) v]) S hr hlk hK hW [0, 1] rfl rfl rfl (congrArg (fun (z : Int32) => z) eF).symm dX4_grace_7
def F_X4_paid (v : S7) : Int32 :=
  if v.1 = 3 then v.2.2.2.2.2.2
  else (-1)
set_option maxRecDepth 100000 in
theorem k_X4_paid_f33 : Cond.fieldLink RX4 33 "FlexiblePolicy" "now" "LFlexiblePolicy$Standing;" ∈ wsX4_paid := by decide +kernel
set_option maxRecDepth 100000 in
theorem k_X4_paid_in4 : ∀ w ∈ u_ws RX4 TX4 6, w ∈ wsX4_paid := by decide +kernel
set_option maxRecDepth 100000 in
theorem k_X4_paid_f132 : Cond.fieldLink RX4 132 "FlexiblePolicy$Standing" "state" "I" ∈ wsX4_paid := by decide +kernel
set_option maxRecDepth 100000 in
theorem k_X4_paid_in3 : ∀ w ∈ u_ws RX3 TX3 7, w ∈ wsX4_paid := by decide +kernel
set_option maxRecDepth 100000 in
theorem k_X4_paid_f151 : Cond.fieldLink RX4 151 "FlexiblePolicy$Standing" "paid" "I" ∈ wsX4_paid := by decide +kernel
theorem nd_X4_paid : yX4_paid.cls = RX4 ∧ yX4_paid.cls ≠ "java/lang/invoke/MethodHandle" ∧ yX4_paid.cls ≠ "java/lang/invoke/VarHandle" ∧ (parseMethodDescriptor yX4_paid.desc).map (fun d => d.parameters.length) = some 0 := by decide +kernel
abbrev rm_X4_paid : Room := { frames := 0, cells := 0, slots := 0, locals := 0 }
set_option maxHeartbeats 4000000 in
set_option maxRecDepth 100000 in
theorem c_X4_paid (l : Launch) (G : GG) (h : Nat → Nat) (p : Int32) (v : S7) : CI l G yX4_paid wsX4_paid rm_X4_paid [.ref (h 0)] [cF h p, cS (h 4) v] (F_X4_paid v) [cF h p, cS (h 4) v] := by
  refine CI_of (own := RX4) (by decide +kernel) rfl rfl (Nat.le_of_ble_eq_true rfl) ?_
  intro pP eE sS mM args below meth cC A S hK hr hlk hmn hW ls hl
  have hx := S.1
  have hb := S.2.1
  have hl : lv_has ls 1 [(0, .ref (h 0))] := hl
  have hW : Wd G A sS.heap [cF h p, cS (h 4) v] sS.heap [] := hW
  refine lv_aload_n hx hb dX4_paid_0 rfl (lv_at hl 0 rfl) ?_
  refine k_get (C := RX4) (T := TX4) (N := 6) (ci := 4) (v := .ref (h 4)) S hK hW k_X4_paid_in4 0 3 rfl rfl (by decide) k_X4_paid_f33 rfl dX4_paid_1 ?_
  refine k_get (C := RX3) (T := TX3) (N := 7) (ci := 3) (v := .int v.1) S hK hW k_X4_paid_in3 1 0 rfl rfl (by decide) k_X4_paid_f132 rfl dX4_paid_4 ?_
  refine lv_iconst (v := 3) hx hb dX4_paid_7 (by decide) ?_
  refine lv_icmp_ne (tgt := 21) hx hb dX4_paid_8 (by decide) (fun c_1 => ?_) (fun c_1 => ?_)
  ·
    refine lv_iconst (v := (-1)) hx hb dX4_paid_21 (by decide) ?_
    have eF : (F_X4_paid v) = (-1) := by
      unfold F_X4_paid
      rw [if_neg c_1]
    exact k_iret (wf := [cF h p, cS (h 4) v]) S hr hlk hK hW [0, 1] rfl rfl rfl (congrArg (fun (z : Int32) => z) eF).symm dX4_paid_22
  ·
    refine lv_aload_n hx hb dX4_paid_11 rfl (lv_at hl 0 rfl) ?_
    refine k_get (C := RX4) (T := TX4) (N := 6) (ci := 4) (v := .ref (h 4)) S hK hW k_X4_paid_in4 0 3 rfl rfl (by decide) k_X4_paid_f33 rfl dX4_paid_12 ?_
    refine k_get (C := RX3) (T := TX3) (N := 7) (ci := 3) (v := .int v.2.2.2.2.2.2) S hK hW k_X4_paid_in3 1 6 rfl rfl (by decide) k_X4_paid_f151 rfl dX4_paid_15 ?_
    refine lv_goto (tgt := 22) hx hb dX4_paid_18 (by decide) ?_
    have eF : (F_X4_paid v) = v.2.2.2.2.2.2 := by
      unfold F_X4_paid
      rw [if_pos c_1]
    exact k_iret (wf := [cF h p, cS (h 4) v]) S hr hlk hK hW [0, 1] rfl rfl rfl (congrArg (fun (z : Int32) => z) eF).symm dX4_paid_22
def F_X4_acts (c : Int32) : Int32 :=
  c
set_option maxRecDepth 100000 in
theorem k_X4_acts_f19 : Cond.fieldLink RX4 19 "FlexiblePolicy" "book" "LFlexiblePolicy$ActBook;" ∈ wsX4_acts := by decide +kernel
set_option maxRecDepth 100000 in
theorem k_X4_acts_in4 : ∀ w ∈ u_ws RX4 TX4 6, w ∈ wsX4_acts := by decide +kernel
set_option maxRecDepth 100000 in
theorem k_X4_acts_f118 : Cond.fieldLink RX4 118 "FlexiblePolicy$ActBook" "count" "I" ∈ wsX4_acts := by decide +kernel
set_option maxRecDepth 100000 in
theorem k_X4_acts_in0 : ∀ w ∈ u_ws RX0 TX0 6, w ∈ wsX4_acts := by decide +kernel
theorem nd_X4_acts : yX4_acts.cls = RX4 ∧ yX4_acts.cls ≠ "java/lang/invoke/MethodHandle" ∧ yX4_acts.cls ≠ "java/lang/invoke/VarHandle" ∧ (parseMethodDescriptor yX4_acts.desc).map (fun d => d.parameters.length) = some 0 := by decide +kernel
abbrev rm_X4_acts : Room := { frames := 0, cells := 0, slots := 0, locals := 0 }
set_option maxHeartbeats 4000000 in
set_option maxRecDepth 100000 in
theorem c_X4_acts (l : Launch) (G : GG) (h : Nat → Nat) (p : Int32) (c : Int32) : CI l G yX4_acts wsX4_acts rm_X4_acts [.ref (h 0)] [cF h p, cB h c] (F_X4_acts c) [cF h p, cB h c] := by
  refine CI_of (own := RX4) (by decide +kernel) rfl rfl (Nat.le_of_ble_eq_true rfl) ?_
  intro pP eE sS mM args below meth cC A S hK hr hlk hmn hW ls hl
  have hx := S.1
  have hb := S.2.1
  have hl : lv_has ls 1 [(0, .ref (h 0))] := hl
  have hW : Wd G A sS.heap [cF h p, cB h c] sS.heap [] := hW
  refine lv_aload_n hx hb dX4_acts_0 rfl (lv_at hl 0 rfl) ?_
  refine k_get (C := RX4) (T := TX4) (N := 6) (ci := 4) (v := .ref (h 2)) S hK hW k_X4_acts_in4 0 1 rfl rfl (by decide) k_X4_acts_f19 rfl dX4_acts_1 ?_
  refine k_get (C := RX0) (T := TX0) (N := 6) (ci := 0) (v := .int c) S hK hW k_X4_acts_in0 1 0 rfl rfl (by decide) k_X4_acts_f118 rfl dX4_acts_4 ?_
  have eF : (F_X4_acts c) = c := by
    rfl
  exact k_iret (wf := [cF h p, cB h c]) S hr hlk hK hW [0, 1] rfl rfl rfl (congrArg (fun (z : Int32) => z) eF).symm dX4_acts_7
def F_X4_month (p : Int32) : Int32 :=
  p
set_option maxRecDepth 100000 in
theorem k_X4_month_f40 : Cond.fieldLink RX4 40 "FlexiblePolicy" "present" "I" ∈ wsX4_month := by decide +kernel
set_option maxRecDepth 100000 in
theorem k_X4_month_in4 : ∀ w ∈ u_ws RX4 TX4 6, w ∈ wsX4_month := by decide +kernel
theorem nd_X4_month : yX4_month.cls = RX4 ∧ yX4_month.cls ≠ "java/lang/invoke/MethodHandle" ∧ yX4_month.cls ≠ "java/lang/invoke/VarHandle" ∧ (parseMethodDescriptor yX4_month.desc).map (fun d => d.parameters.length) = some 0 := by decide +kernel
abbrev rm_X4_month : Room := { frames := 0, cells := 0, slots := 0, locals := 0 }
set_option maxHeartbeats 4000000 in
set_option maxRecDepth 100000 in
theorem c_X4_month (l : Launch) (G : GG) (h : Nat → Nat) (p : Int32) : CI l G yX4_month wsX4_month rm_X4_month [.ref (h 0)] [cF h p] (F_X4_month p) [cF h p] := by
  refine CI_of (own := RX4) (by decide +kernel) rfl rfl (Nat.le_of_ble_eq_true rfl) ?_
  intro pP eE sS mM args below meth cC A S hK hr hlk hmn hW ls hl
  have hx := S.1
  have hb := S.2.1
  have hl : lv_has ls 1 [(0, .ref (h 0))] := hl
  have hW : Wd G A sS.heap [cF h p] sS.heap [] := hW
  refine lv_aload_n hx hb dX4_month_0 rfl (lv_at hl 0 rfl) ?_
  refine k_get (C := RX4) (T := TX4) (N := 6) (ci := 4) (v := .int p) S hK hW k_X4_month_in4 0 5 rfl rfl (by decide) k_X4_month_f40 rfl dX4_month_1 ?_
  have eF : (F_X4_month p) = p := by
    rfl
  exact k_iret (wf := [cF h p]) S hr hlk hK hW [0] rfl rfl rfl (congrArg (fun (z : Int32) => z) eF).symm dX4_month_4
def F_X4_deathSum (p : Int32) (q : S3) (v : S7) : Int32 :=
  if bI (F_X3_isLive v) = 0 then 0
  else (F_X2_deathSumFor q v.2.1 p)
set_option maxRecDepth 100000 in
theorem k_X4_deathSum_f33 : Cond.fieldLink RX4 33 "FlexiblePolicy" "now" "LFlexiblePolicy$Standing;" ∈ wsX4_deathSum := by decide +kernel
set_option maxRecDepth 100000 in
theorem k_X4_deathSum_in4 : ∀ w ∈ u_ws RX4 TX4 6, w ∈ wsX4_deathSum := by decide +kernel
set_option maxRecDepth 100000 in
theorem k_X4_deathSum_f10 : Cond.fieldLink RX4 10 "FlexiblePolicy" "plan" "LFlexiblePolicy$Plan;" ∈ wsX4_deathSum := by decide +kernel
set_option maxRecDepth 100000 in
theorem k_X4_deathSum_f135 : Cond.fieldLink RX4 135 "FlexiblePolicy$Standing" "account" "I" ∈ wsX4_deathSum := by decide +kernel
set_option maxRecDepth 100000 in
theorem k_X4_deathSum_in3 : ∀ w ∈ u_ws RX3 TX3 7, w ∈ wsX4_deathSum := by decide +kernel
set_option maxRecDepth 100000 in
theorem k_X4_deathSum_f40 : Cond.fieldLink RX4 40 "FlexiblePolicy" "present" "I" ∈ wsX4_deathSum := by decide +kernel
theorem nd_X4_deathSum : yX4_deathSum.cls = RX4 ∧ yX4_deathSum.cls ≠ "java/lang/invoke/MethodHandle" ∧ yX4_deathSum.cls ≠ "java/lang/invoke/VarHandle" ∧ (parseMethodDescriptor yX4_deathSum.desc).map (fun d => d.parameters.length) = some 0 := by decide +kernel
abbrev rm_X4_deathSum : Room := { frames := 2, cells := 0, slots := 0, locals := 49 }
set_option maxHeartbeats 4000000 in
set_option maxRecDepth 100000 in
theorem c_X4_deathSum (l : Launch) (G : GG) (h : Nat → Nat) (p : Int32) (q : S3) (v : S7) : CI l G yX4_deathSum wsX4_deathSum rm_X4_deathSum [.ref (h 0)] [cF h p, cP (h 1) q, cS (h 4) v] (F_X4_deathSum p q v) [cF h p, cP (h 1) q, cS (h 4) v] := by
  refine CI_of (own := RX4) (by decide +kernel) rfl rfl (Nat.le_of_ble_eq_true rfl) ?_
  intro pP eE sS mM args below meth cC A S hK hr hlk hmn hW ls hl
  have hx := S.1
  have hb := S.2.1
  have hl : lv_has ls 1 [(0, .ref (h 0))] := hl
  have hW : Wd G A sS.heap [cF h p, cP (h 1) q, cS (h 4) v] sS.heap [] := hW
  refine lv_aload_n hx hb dX4_deathSum_0 rfl (lv_at hl 0 rfl) ?_
  refine k_get (C := RX4) (T := TX4) (N := 6) (ci := 4) (v := .ref (h 4)) S hK hW k_X4_deathSum_in4 0 3 rfl rfl (by decide) k_X4_deathSum_f33 rfl dX4_deathSum_1 ?_
  refine k_callVi (C := RX3) (As := []) (rest := []) (wr := [cF h p, cP (h 1) q]) (c_X3_isLive l G (h 4) v) S hK hW gX4_deathSum_X3_isLive rfl ⟨rfl, rfl⟩ nd_X3_isLive ⟨rfl, rfl⟩ (qb := 2) (ci := 3) rfl rfl [2] [0, 1] rfl rfl rfl rfl (by decide) rfl hl.1 rfl dX4_deathSum_4 ⟨Nat.zero_le _, Nat.zero_le _⟩ (fun H locs hW => ?_)
  have hW : Wd G A sS.heap [cF h p, cP (h 1) q, cS (h 4) v] H locs := hW
  refine lv_if_eq (tgt := 31) hx hb dX4_deathSum_7 (by decide) (fun c_1 => ?_) (fun c_1 => ?_)
  ·
    refine lv_iconst (v := 0) hx hb dX4_deathSum_31 (by decide) ?_
    have eF : (F_X4_deathSum p q v) = 0 := by
      unfold F_X4_deathSum
      rw [if_pos c_1]
    exact k_iret (wf := [cF h p, cP (h 1) q, cS (h 4) v]) S hr hlk hK hW [0, 1, 2] rfl rfl rfl (congrArg (fun (z : Int32) => z) eF).symm dX4_deathSum_32
  ·
    refine lv_aload_n hx hb dX4_deathSum_10 rfl (lv_at hl 0 rfl) ?_
    refine k_get (C := RX4) (T := TX4) (N := 6) (ci := 4) (v := .ref (h 1)) S hK hW k_X4_deathSum_in4 0 0 rfl rfl (by decide) k_X4_deathSum_f10 rfl dX4_deathSum_11 ?_
    refine lv_aload_n hx hb dX4_deathSum_14 rfl (lv_at hl 0 rfl) ?_
    refine k_get (C := RX4) (T := TX4) (N := 6) (ci := 4) (v := .ref (h 4)) S hK hW k_X4_deathSum_in4 0 3 rfl rfl (by decide) k_X4_deathSum_f33 rfl dX4_deathSum_15 ?_
    refine k_get (C := RX3) (T := TX3) (N := 7) (ci := 3) (v := .int v.2.1) S hK hW k_X4_deathSum_in3 2 1 rfl rfl (by decide) k_X4_deathSum_f135 rfl dX4_deathSum_18 ?_
    refine lv_aload_n hx hb dX4_deathSum_21 rfl (lv_at hl 0 rfl) ?_
    refine k_get (C := RX4) (T := TX4) (N := 6) (ci := 4) (v := .int p) S hK hW k_X4_deathSum_in4 0 5 rfl rfl (by decide) k_X4_deathSum_f40 rfl dX4_deathSum_22 ?_
    refine k_callVi (C := RX2) (As := [.int v.2.1, .int p]) (rest := []) (wr := [cF h p, cS (h 4) v]) (c_X2_deathSumFor l G (h 1) q v.2.1 p) S hK hW gX4_deathSum_X2_deathSumFor rfl ⟨rfl, rfl⟩ nd_X2_deathSumFor ⟨rfl, rfl⟩ (qb := 1) (ci := 2) rfl rfl [1] [0, 2] rfl rfl rfl rfl (by decide) rfl hl.1 rfl dX4_deathSum_25 ⟨Nat.zero_le _, Nat.zero_le _⟩ (fun H locs hW => ?_)
    have hW : Wd G A sS.heap [cF h p, cS (h 4) v, cP (h 1) q] H locs := hW
    refine lv_goto (tgt := 32) hx hb dX4_deathSum_28 (by decide) ?_
    have eF : (F_X4_deathSum p q v) = (F_X2_deathSumFor q v.2.1 p) := by
      unfold F_X4_deathSum
      rw [if_neg c_1]
    exact k_iret (wf := [cF h p, cP (h 1) q, cS (h 4) v]) S hr hlk hK hW [0, 2, 1] rfl rfl rfl (congrArg (fun (z : Int32) => z) eF).symm dX4_deathSum_32
def F_X4_charge (p : Int32) (q : S3) (v : S7) : Int32 :=
  if bI (F_X3_isLive v) = 0 then 0
  else (F_X2_chargeFor q v.2.1 p)
set_option maxRecDepth 100000 in
theorem k_X4_charge_f33 : Cond.fieldLink RX4 33 "FlexiblePolicy" "now" "LFlexiblePolicy$Standing;" ∈ wsX4_charge := by decide +kernel
set_option maxRecDepth 100000 in
theorem k_X4_charge_in4 : ∀ w ∈ u_ws RX4 TX4 6, w ∈ wsX4_charge := by decide +kernel
set_option maxRecDepth 100000 in
theorem k_X4_charge_f10 : Cond.fieldLink RX4 10 "FlexiblePolicy" "plan" "LFlexiblePolicy$Plan;" ∈ wsX4_charge := by decide +kernel
set_option maxRecDepth 100000 in
theorem k_X4_charge_f135 : Cond.fieldLink RX4 135 "FlexiblePolicy$Standing" "account" "I" ∈ wsX4_charge := by decide +kernel
set_option maxRecDepth 100000 in
theorem k_X4_charge_in3 : ∀ w ∈ u_ws RX3 TX3 7, w ∈ wsX4_charge := by decide +kernel
set_option maxRecDepth 100000 in
theorem k_X4_charge_f40 : Cond.fieldLink RX4 40 "FlexiblePolicy" "present" "I" ∈ wsX4_charge := by decide +kernel
theorem nd_X4_charge : yX4_charge.cls = RX4 ∧ yX4_charge.cls ≠ "java/lang/invoke/MethodHandle" ∧ yX4_charge.cls ≠ "java/lang/invoke/VarHandle" ∧ (parseMethodDescriptor yX4_charge.desc).map (fun d => d.parameters.length) = some 0 := by decide +kernel
abbrev rm_X4_charge : Room := { frames := 3, cells := 0, slots := 0, locals := 73 }
set_option maxHeartbeats 4000000 in
set_option maxRecDepth 100000 in
theorem c_X4_charge (l : Launch) (G : GG) (h : Nat → Nat) (p : Int32) (q : S3) (v : S7) : CI l G yX4_charge wsX4_charge rm_X4_charge [.ref (h 0)] [cF h p, cP (h 1) q, cS (h 4) v] (F_X4_charge p q v) [cF h p, cP (h 1) q, cS (h 4) v] := by
  refine CI_of (own := RX4) (by decide +kernel) rfl rfl (Nat.le_of_ble_eq_true rfl) ?_
  intro pP eE sS mM args below meth cC A S hK hr hlk hmn hW ls hl
  have hx := S.1
  have hb := S.2.1
  have hl : lv_has ls 1 [(0, .ref (h 0))] := hl
  have hW : Wd G A sS.heap [cF h p, cP (h 1) q, cS (h 4) v] sS.heap [] := hW
  refine lv_aload_n hx hb dX4_charge_0 rfl (lv_at hl 0 rfl) ?_
  refine k_get (C := RX4) (T := TX4) (N := 6) (ci := 4) (v := .ref (h 4)) S hK hW k_X4_charge_in4 0 3 rfl rfl (by decide) k_X4_charge_f33 rfl dX4_charge_1 ?_
  refine k_callVi (C := RX3) (As := []) (rest := []) (wr := [cF h p, cP (h 1) q]) (c_X3_isLive l G (h 4) v) S hK hW gX4_charge_X3_isLive rfl ⟨rfl, rfl⟩ nd_X3_isLive ⟨rfl, rfl⟩ (qb := 2) (ci := 3) rfl rfl [2] [0, 1] rfl rfl rfl rfl (by decide) rfl hl.1 rfl dX4_charge_4 ⟨Nat.zero_le _, Nat.zero_le _⟩ (fun H locs hW => ?_)
  have hW : Wd G A sS.heap [cF h p, cP (h 1) q, cS (h 4) v] H locs := hW
  refine lv_if_eq (tgt := 31) hx hb dX4_charge_7 (by decide) (fun c_1 => ?_) (fun c_1 => ?_)
  ·
    refine lv_iconst (v := 0) hx hb dX4_charge_31 (by decide) ?_
    have eF : (F_X4_charge p q v) = 0 := by
      unfold F_X4_charge
      rw [if_pos c_1]
    exact k_iret (wf := [cF h p, cP (h 1) q, cS (h 4) v]) S hr hlk hK hW [0, 1, 2] rfl rfl rfl (congrArg (fun (z : Int32) => z) eF).symm dX4_charge_32
  ·
    refine lv_aload_n hx hb dX4_charge_10 rfl (lv_at hl 0 rfl) ?_
    refine k_get (C := RX4) (T := TX4) (N := 6) (ci := 4) (v := .ref (h 1)) S hK hW k_X4_charge_in4 0 0 rfl rfl (by decide) k_X4_charge_f10 rfl dX4_charge_11 ?_
    refine lv_aload_n hx hb dX4_charge_14 rfl (lv_at hl 0 rfl) ?_
    refine k_get (C := RX4) (T := TX4) (N := 6) (ci := 4) (v := .ref (h 4)) S hK hW k_X4_charge_in4 0 3 rfl rfl (by decide) k_X4_charge_f33 rfl dX4_charge_15 ?_
    refine k_get (C := RX3) (T := TX3) (N := 7) (ci := 3) (v := .int v.2.1) S hK hW k_X4_charge_in3 2 1 rfl rfl (by decide) k_X4_charge_f135 rfl dX4_charge_18 ?_
    refine lv_aload_n hx hb dX4_charge_21 rfl (lv_at hl 0 rfl) ?_
    refine k_get (C := RX4) (T := TX4) (N := 6) (ci := 4) (v := .int p) S hK hW k_X4_charge_in4 0 5 rfl rfl (by decide) k_X4_charge_f40 rfl dX4_charge_22 ?_
    refine k_callVi (C := RX2) (As := [.int v.2.1, .int p]) (rest := []) (wr := [cF h p, cS (h 4) v]) (c_X2_chargeFor l G (h 1) q v.2.1 p) S hK hW gX4_charge_X2_chargeFor rfl ⟨rfl, rfl⟩ nd_X2_chargeFor ⟨rfl, rfl⟩ (qb := 1) (ci := 2) rfl rfl [1] [0, 2] rfl rfl rfl rfl (by decide) rfl hl.1 rfl dX4_charge_25 ⟨Nat.zero_le _, Nat.zero_le _⟩ (fun H locs hW => ?_)
    have hW : Wd G A sS.heap [cF h p, cS (h 4) v, cP (h 1) q] H locs := hW
    refine lv_goto (tgt := 32) hx hb dX4_charge_28 (by decide) ?_
    have eF : (F_X4_charge p q v) = (F_X2_chargeFor q v.2.1 p) := by
      unfold F_X4_charge
      rw [if_neg c_1]
    exact k_iret (wf := [cF h p, cP (h 1) q, cS (h 4) v]) S hr hlk hK hW [0, 2, 1] rfl rfl rfl (congrArg (fun (z : Int32) => z) eF).symm dX4_charge_32
