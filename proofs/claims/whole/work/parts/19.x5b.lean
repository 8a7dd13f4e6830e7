def Lp_X5_doActs (ka : Int32) (kb : Int32) (kc : Int32) (mo : (Nat → Int32)) (ki : (Nat → Int32)) (am : (Nat → Int32)) (sk : (Nat → Bool)) (m : Int32) : Nat → Nat → S7 → (Nat → Bool) → S7 × (Nat → Bool)
  | 0, i, v9, dn9 => (v9, dn9)
  | d + 1, i, v9, dn9 => if (mo (nI i).toNatClampNeg) = m then (if bI (sk (nI i).toNatClampNeg) = 0 then Lp_X5_doActs ka kb kc mo ki am sk m d (i + 1) ((F_X5_act ka kb kc v9 (ki (nI i).toNatClampNeg) (am (nI i).toNatClampNeg) m).2) (updB dn9 (nI i).toNatClampNeg ((F_X5_act ka kb kc v9 (ki (nI i).toNatClampNeg) (am (nI i).toNatClampNeg) m).1))
    else Lp_X5_doActs ka kb kc mo ki am sk m d (i + 1) v9 dn9)
  else Lp_X5_doActs ka kb kc mo ki am sk m d (i + 1) v9 dn9
def F_X5_doActs (ka : Int32) (kb : Int32) (kc : Int32) (v : S7) (mo : (Nat → Int32)) (ki : (Nat → Int32)) (am : (Nat → Int32)) (sk : (Nat → Bool)) (dn : (Nat → Bool)) (m : Int32) (n : Nat) : S7 × (Nat → Bool) :=
  Lp_X5_doActs ka kb kc mo ki am sk m n 0 v dn
set_option maxRecDepth 100000 in
theorem k_X5_doActs_f105 : Cond.fieldLink RX5 105 "FlexiblePolicyModel" "actMany" "I" ∈ wsX5_doActs := by decide +kernel
set_option maxRecDepth 100000 in
theorem k_X5_doActs_in5 : ∀ w ∈ u_ws RX5 TX5 18, w ∈ wsX5_doActs := by decide +kernel
set_option maxRecDepth 100000 in
theorem k_X5_doActs_f7 : Cond.fieldLink RX5 7 "FlexiblePolicyModel" "months" "[I" ∈ wsX5_doActs := by decide +kernel
set_option maxRecDepth 100000 in
theorem k_X5_doActs_f19 : Cond.fieldLink RX5 19 "FlexiblePolicyModel" "isStruck" "[Z" ∈ wsX5_doActs := by decide +kernel
set_option maxRecDepth 100000 in
theorem k_X5_doActs_f23 : Cond.fieldLink RX5 23 "FlexiblePolicyModel" "isDone" "[Z" ∈ wsX5_doActs := by decide +kernel
set_option maxRecDepth 100000 in
theorem k_X5_doActs_f13 : Cond.fieldLink RX5 13 "FlexiblePolicyModel" "acts" "[I" ∈ wsX5_doActs := by decide +kernel
set_option maxRecDepth 100000 in
theorem k_X5_doActs_f16 : Cond.fieldLink RX5 16 "FlexiblePolicyModel" "amounts" "[I" ∈ wsX5_doActs := by decide +kernel
theorem nd_X5_doActs : yX5_doActs.cls = RX5 ∧ yX5_doActs.cls ≠ "java/lang/invoke/MethodHandle" ∧ yX5_doActs.cls ≠ "java/lang/invoke/VarHandle" ∧ (parseMethodDescriptor yX5_doActs.desc).map (fun d => d.parameters.length) = some 1 := by decide +kernel
abbrev rm_X5_doActs : Room := { frames := 3, cells := 0, slots := 0, locals := 72 }
set_option maxHeartbeats 4000000 in
set_option maxRecDepth 100000 in
theorem c_X5_doActs (l : Launch) (G : GG) (h : Nat → Nat) (ka : Int32) (kb : Int32) (kc : Int32) (kd : Int32) (v : S7) (t : Int32) (mo : (Nat → Int32)) (ki : (Nat → Int32)) (am : (Nat → Int32)) (sk : (Nat → Bool)) (dn : (Nat → Bool)) (m : Int32) (n : Nat) (hn : n ≤ 60) : CV l G yX5_doActs wsX5_doActs rm_X5_doActs [.ref (h 18), .int m] [cM h (ka, kb, kc, kd, (nI n)) v t, aI G (h 19) 60 mo, aI G (h 20) 60 ki, aI G (h 21) 60 am, aZ G (h 22) 60 sk, aZ G (h 23) 60 dn] [cM h (ka, kb, kc, kd, (nI n)) ((F_X5_doActs ka kb kc v mo ki am sk dn m n).1) t, aI G (h 19) 60 mo, aI G (h 20) 60 ki, aI G (h 21) 60 am, aZ G (h 22) 60 sk, aZ G (h 23) 60 ((F_X5_doActs ka kb kc v mo ki am sk dn m n).2)] := by
  refine CV_of (own := RX5) (by decide +kernel) rfl rfl (Nat.le_of_ble_eq_true rfl) ?_
  intro pP eE sS mM args below meth cC A S hK hr hlk hmn hW ls hl
  have hx := S.1
  have hb := S.2.1
  have hl : lv_has ls 3 [(0, .ref (h 18)), (1, .int m)] := hl
  have hW : Wd G A sS.heap [cM h (ka, kb, kc, kd, (nI n)) v t, aI G (h 19) 60 mo, aI G (h 20) 60 ki, aI G (h 21) 60 am, aZ G (h 22) 60 sk, aZ G (h 23) 60 dn] sS.heap [] := hW
  have key : ∀ (d i : Nat) (v9 : S7) (dn9 : (Nat → Bool)), i + d = n → Lp_X5_doActs ka kb kc mo ki am sk m d i v9 dn9 = (F_X5_doActs ka kb kc v mo ki am sk dn m n) → ∀ (H : Heap) (locs : List Loc) (ls : Array Slot), Wd G A sS.heap [cM h (ka, kb, kc, kd, (nI n)) v9 t, aI G (h 19) 60 mo, aI G (h 20) 60 ki, aI G (h 21) 60 am, aZ G (h 22) 60 sk, aZ G (h 23) 60 dn9] H locs → lv_has ls 3 [(2, .int (nI i)), (0, .ref (h 18)), (1, .int m)] → W pP l eE rm_X5_doActs sS mM args below meth cC H locs 0 0 (MQ below (QV G A [cM h (ka, kb, kc, kd, (nI n)) ((F_X5_doActs ka kb kc v mo ki am sk dn m n).1) t, aI G (h 19) 60 mo, aI G (h 20) 60 ki, aI G (h 21) 60 am, aZ G (h 22) 60 sk, aZ G (h 23) 60 ((F_X5_doActs ka kb kc v mo ki am sk dn m n).2)]) args sS 0 0 A) (F0 mM 2 ls []) := by
    intro d
    induction d with
    | zero =>
      intro i v9 dn9 hi hF H locs ls hW hl
      have hc : nI n ≤ nI i := nI_le (by omega) (by omega)
      refine lv_iload_n hx hb dX5_doActs_2 rfl (lv_at hl 0 rfl) ?_
      refine lv_aload_n hx hb dX5_doActs_3 rfl (lv_at hl 1 rfl) ?_
      refine k_get (C := RX5) (T := TX5) (N := 18) (ci := 5) (v := .int (nI n)) S hK hW k_X5_doActs_in5 0 4 rfl rfl (by decide) k_X5_doActs_f105 rfl dX5_doActs_4 ?_
      refine lv_icmp_ge (tgt := 58) hx hb dX5_doActs_7 (by decide) (fun c_1 => ?_) (fun c_1 => ?_)
      ·
        have eF : (F_X5_doActs ka kb kc v mo ki am sk dn m n) = (v9, dn9) := hF.symm.trans (by
          rw [Lp_X5_doActs])
        exact k_vret (wf := [cM h (ka, kb, kc, kd, (nI n)) v9 t, aI G (h 19) 60 mo, aI G (h 20) 60 ki, aI G (h 21) 60 am, aZ G (h 22) 60 sk, aZ G (h 23) 60 dn9]) S hr hlk hK hW [0, 1, 2, 3, 4, 5] rfl rfl (congrArg (fun (z : S7 × (Nat → Bool)) => [cM h (ka, kb, kc, kd, (nI n)) z.1 t, aI G (h 19) 60 mo, aI G (h 20) 60 ki, aI G (h 21) 60 am, aZ G (h 22) 60 sk, aZ G (h 23) 60 z.2]) eF).symm dX5_doActs_58
      ·
        exact absurd hc c_1
    | succ d ih =>
      intro i v9 dn9 hi hF H locs ls hW hl
      have hc : ¬ nI n ≤ nI i := nI_ge (by omega) (by omega)
      refine lv_iload_n hx hb dX5_doActs_2 rfl (lv_at hl 0 rfl) ?_
      refine lv_aload_n hx hb dX5_doActs_3 rfl (lv_at hl 1 rfl) ?_
      refine k_get (C := RX5) (T := TX5) (N := 18) (ci := 5) (v := .int (nI n)) S hK hW k_X5_doActs_in5 0 4 rfl rfl (by decide) k_X5_doActs_f105 rfl dX5_doActs_4 ?_
      refine lv_icmp_ge (tgt := 58) hx hb dX5_doActs_7 (by decide) (fun c_2 => ?_) (fun c_2 => ?_)
      ·
        exact absurd c_2 hc
      ·
        refine lv_aload_n hx hb dX5_doActs_10 rfl (lv_at hl 1 rfl) ?_
        refine k_get (C := RX5) (T := TX5) (N := 18) (ci := 5) (v := .ref (h 19)) S hK hW k_X5_doActs_in5 0 5 rfl rfl (by decide) k_X5_doActs_f7 rfl dX5_doActs_11 ?_
        refine lv_iload_n hx hb dX5_doActs_14 rfl (lv_at hl 0 rfl) ?_
        refine k_iald (n := 60) S hK hW 1 rfl (i := nI i) (vp_in_nI (by omega) (by omega)) dX5_doActs_15 ?_
        refine lv_iload_n hx hb dX5_doActs_16 rfl (lv_at hl 2 rfl) ?_
        refine lv_icmp_ne (tgt := 52) hx hb dX5_doActs_17 (by decide) (fun c_3 => ?_) (fun c_3 => ?_)
        ·
          refine lv_iinc (v := (nI i + 1)) (lv' := [(2, .int (nI i + 1)), (0, .ref (h 18)), (1, .int m)]) hx hb dX5_doActs_52 hl (k := 0) rfl rfl (by decide) rfl (fun ls hl => ?_)
          refine lv_goto (tgt := 2) hx hb dX5_doActs_55 (by decide) ?_
          have eS : Lp_X5_doActs ka kb kc mo ki am sk m (d + 1) i v9 dn9 = Lp_X5_doActs ka kb kc mo ki am sk m d (i + 1) v9 dn9 := by
            rw [Lp_X5_doActs, if_neg c_3]
          have hl : lv_has ls 3 [(2, .int (nI (i + 1))), (0, .ref (h 18)), (1, .int m)] := by
            first | exact lv_sub hl [0, 1, 2] rfl | (rw [← nI_1]; exact lv_sub hl [0, 1, 2] rfl)
          exact ih (i + 1) v9 dn9 (by omega) (eS.symm.trans hF) _ _ _ (hW.re [0, 1, 2, 3, 4, 5] rfl rfl) hl
        ·
          refine lv_aload_n hx hb dX5_doActs_20 rfl (lv_at hl 1 rfl) ?_
          refine k_get (C := RX5) (T := TX5) (N := 18) (ci := 5) (v := .ref (h 22)) S hK hW k_X5_doActs_in5 0 8 rfl rfl (by decide) k_X5_doActs_f19 rfl dX5_doActs_21 ?_
          refine lv_iload_n hx hb dX5_doActs_24 rfl (lv_at hl 0 rfl) ?_
          refine k_zald (n := 60) S hK hW 4 rfl (i := nI i) (vp_in_nI (by omega) (by omega)) dX5_doActs_25 ?_
          refine lv_if_ne (tgt := 52) hx hb dX5_doActs_26 (by decide) (fun c_4 => ?_) (fun c_4 => ?_)
          ·
            refine lv_iinc (v := (nI i + 1)) (lv' := [(2, .int (nI i + 1)), (0, .ref (h 18)), (1, .int m)]) hx hb dX5_doActs_52 hl (k := 0) rfl rfl (by decide) rfl (fun ls hl => ?_)
            refine lv_goto (tgt := 2) hx hb dX5_doActs_55 (by decide) ?_
            have eS : Lp_X5_doActs ka kb kc mo ki am sk m (d + 1) i v9 dn9 = Lp_X5_doActs ka kb kc mo ki am sk m d (i + 1) v9 dn9 := by
              rw [Lp_X5_doActs, if_pos c_3, if_neg c_4]
            have hl : lv_has ls 3 [(2, .int (nI (i + 1))), (0, .ref (h 18)), (1, .int m)] := by
              first | exact lv_sub hl [0, 1, 2] rfl | (rw [← nI_1]; exact lv_sub hl [0, 1, 2] rfl)
            exact ih (i + 1) v9 dn9 (by omega) (eS.symm.trans hF) _ _ _ (hW.re [0, 1, 2, 3, 4, 5] rfl rfl) hl
          ·
            refine lv_aload_n hx hb dX5_doActs_29 rfl (lv_at hl 1 rfl) ?_
            refine k_get (C := RX5) (T := TX5) (N := 18) (ci := 5) (v := .ref (h 23)) S hK hW k_X5_doActs_in5 0 9 rfl rfl (by decide) k_X5_doActs_f23 rfl dX5_doActs_30 ?_
            refine lv_iload_n hx hb dX5_doActs_33 rfl (lv_at hl 0 rfl) ?_
            refine lv_aload_n hx hb dX5_doActs_34 rfl (lv_at hl 1 rfl) ?_
            refine lv_aload_n hx hb dX5_doActs_35 rfl (lv_at hl 1 rfl) ?_
            refine k_get (C := RX5) (T := TX5) (N := 18) (ci := 5) (v := .ref (h 20)) S hK hW k_X5_doActs_in5 0 6 rfl rfl (by decide) k_X5_doActs_f13 rfl dX5_doActs_36 ?_
            refine lv_iload_n hx hb dX5_doActs_39 rfl (lv_at hl 0 rfl) ?_
            refine k_iald (n := 60) S hK hW 2 rfl (i := nI i) (vp_in_nI (by omega) (by omega)) dX5_doActs_40 ?_
            refine lv_aload_n hx hb dX5_doActs_41 rfl (lv_at hl 1 rfl) ?_
            refine k_get (C := RX5) (T := TX5) (N := 18) (ci := 5) (v := .ref (h 21)) S hK hW k_X5_doActs_in5 0 7 rfl rfl (by decide) k_X5_doActs_f16 rfl dX5_doActs_42 ?_
            refine lv_iload_n hx hb dX5_doActs_45 rfl (lv_at hl 0 rfl) ?_
            refine k_iald (n := 60) S hK hW 3 rfl (i := nI i) (vp_in_nI (by omega) (by omega)) dX5_doActs_46 ?_
            refine lv_iload_n hx hb dX5_doActs_47 rfl (lv_at hl 2 rfl) ?_
            refine k_callVi (C := RX5) (As := [.int (ki (nI i).toNatClampNeg), .int (am (nI i).toNatClampNeg), .int m]) (rest := [.int (nI i), .ref (h 23)]) (wr := [aI G (h 19) 60 mo, aI G (h 20) 60 ki, aI G (h 21) 60 am, aZ G (h 22) 60 sk, aZ G (h 23) 60 dn9]) (c_X5_act l G h ka kb kc kd (nI n) v9 t (ki (nI i).toNatClampNeg) (am (nI i).toNatClampNeg) m) S hK hW gX5_doActs_X5_act rfl ⟨rfl, rfl⟩ nd_X5_act ⟨rfl, rfl⟩ (qb := 0) (ci := 5) rfl rfl [0] [1, 2, 3, 4, 5] rfl rfl rfl rfl (by decide) rfl hl.1 rfl dX5_doActs_48 ⟨Nat.zero_le _, Nat.zero_le _⟩ (fun H locs hW => ?_)
            have hW : Wd G A sS.heap [aI G (h 19) 60 mo, aI G (h 20) 60 ki, aI G (h 21) 60 am, aZ G (h 22) 60 sk, aZ G (h 23) 60 dn9, cM h (ka, kb, kc, kd, (nI n)) ((F_X5_act ka kb kc v9 (ki (nI i).toNatClampNeg) (am (nI i).toNatClampNeg) m).2) t] H locs := hW
            refine k_zast (n := 60) (ws' := [aI G (h 19) 60 mo, aI G (h 20) 60 ki, aI G (h 21) 60 am, aZ G (h 22) 60 sk, aZ G (h 23) 60 (updB dn9 (nI i).toNatClampNeg ((F_X5_act ka kb kc v9 (ki (nI i).toNatClampNeg) (am (nI i).toNatClampNeg) m).1)), cM h (ka, kb, kc, kd, (nI n)) ((F_X5_act ka kb kc v9 (ki (nI i).toNatClampNeg) (am (nI i).toNatClampNeg) m).2) t]) S hK hW 4 rfl (i := nI i) (b := ((F_X5_act ka kb kc v9 (ki (nI i).toNatClampNeg) (am (nI i).toNatClampNeg) m).1)) rfl (vp_in_nI (by omega) (by omega)) rfl dX5_doActs_51 (fun H locs hW => ?_)
            refine lv_iinc (v := (nI i + 1)) (lv' := [(2, .int (nI i + 1)), (0, .ref (h 18)), (1, .int m)]) hx hb dX5_doActs_52 hl (k := 0) rfl rfl (by decide) rfl (fun ls hl => ?_)
            refine lv_goto (tgt := 2) hx hb dX5_doActs_55 (by decide) ?_
            have eS : Lp_X5_doActs ka kb kc mo ki am sk m (d + 1) i v9 dn9 = Lp_X5_doActs ka kb kc mo ki am sk m d (i + 1) ((F_X5_act ka kb kc v9 (ki (nI i).toNatClampNeg) (am (nI i).toNatClampNeg) m).2) (updB dn9 (nI i).toNatClampNeg ((F_X5_act ka kb kc v9 (ki (nI i).toNatClampNeg) (am (nI i).toNatClampNeg) m).1)) := by
              rw [Lp_X5_doActs, if_pos c_3, if_pos c_4]
            have hl : lv_has ls 3 [(2, .int (nI (i + 1))), (0, .ref (h 18)), (1, .int m)] := by
              first | exact lv_sub hl [0, 1, 2] rfl | (rw [← nI_1]; exact lv_sub hl [0, 1, 2] rfl)
            exact ih (i + 1) ((F_X5_act ka kb kc v9 (ki (nI i).toNatClampNeg) (am (nI i).toNatClampNeg) m).2) (updB dn9 (nI i).toNatClampNeg ((F_X5_act ka kb kc v9 (ki (nI i).toNatClampNeg) (am (nI i).toNatClampNeg) m).1)) (by omega) (eS.symm.trans hF) _ _ _ (hW.re [5, 0, 1, 2, 3, 4] rfl rfl) hl
  refine lv_iconst (v := 0) hx hb dX5_doActs_0 (by decide) ?_
  refine lv_istore_n (lv' := [(2, .int 0), (0, .ref (h 18)), (1, .int m)]) hx hb dX5_doActs_1 rfl hl (by decide) rfl (fun ls hl => ?_)
  have eF : (F_X5_doActs ka kb kc v mo ki am sk dn m n) = Lp_X5_doActs ka kb kc mo ki am sk m n 0 v dn := by
    rfl
  exact key n 0 v dn (by omega) eF.symm _ _ _ (hW.re [0, 1, 2, 3, 4, 5] rfl rfl) (lv_sub hl [0, 1, 2] (by rw [nI_0] <;> rfl))
def Lp_X5_goTo (ka : Int32) (kb : Int32) (kc : Int32) (mo : (Nat → Int32)) (ki : (Nat → Int32)) (am : (Nat → Int32)) (sk : (Nat → Bool)) (n : Nat) : Nat → Nat → S7 → (Nat → Bool) → S7 × (Nat → Bool)
  | 0, i, v9, dn9 => (v9, dn9)
  | d + 1, i, v9, dn9 => Lp_X5_goTo ka kb kc mo ki am sk n d (i + 1) (F_X5_closeMonth ka kb kc ((F_X5_doActs ka kb kc v9 mo ki am sk dn9 (nI i) n).1) (nI i)) ((F_X5_doActs ka kb kc v9 mo ki am sk dn9 (nI i) n).2)
def F_X5_goTo (ka : Int32) (kb : Int32) (kc : Int32) (mo : (Nat → Int32)) (ki : (Nat → Int32)) (am : (Nat → Int32)) (sk : (Nat → Bool)) (dn : (Nat → Bool)) (n : Nat) (mm : Nat) : S7 × (Nat → Bool) :=
  Lp_X5_goTo ka kb kc mo ki am sk n mm 0 F_X5_start dn
theorem nd_X5_goTo : yX5_goTo.cls = RX5 ∧ yX5_goTo.cls ≠ "java/lang/invoke/MethodHandle" ∧ yX5_goTo.cls ≠ "java/lang/invoke/VarHandle" ∧ (parseMethodDescriptor yX5_goTo.desc).map (fun d => d.parameters.length) = some 1 := by decide +kernel
abbrev rm_X5_goTo : Room := { frames := 4, cells := 0, slots := 0, locals := 94 }
set_option maxHeartbeats 4000000 in
set_option maxRecDepth 100000 in
theorem c_X5_goTo (l : Launch) (G : GG) (h : Nat → Nat) (ka : Int32) (kb : Int32) (kc : Int32) (kd : Int32) (v : S7) (t : Int32) (mo : (Nat → Int32)) (ki : (Nat → Int32)) (am : (Nat → Int32)) (sk : (Nat → Bool)) (dn : (Nat → Bool)) (n : Nat) (mm : Nat) (hn : n ≤ 60) (hm : mm ≤ 120) : CV l G yX5_goTo wsX5_goTo rm_X5_goTo [.ref (h 18), .int (nI mm)] [cM h (ka, kb, kc, kd, (nI n)) v t, aI G (h 19) 60 mo, aI G (h 20) 60 ki, aI G (h 21) 60 am, aZ G (h 22) 60 sk, aZ G (h 23) 60 dn] [cM h (ka, kb, kc, kd, (nI n)) ((F_X5_goTo ka kb kc mo ki am sk dn n mm).1) t, aI G (h 19) 60 mo, aI G (h 20) 60 ki, aI G (h 21) 60 am, aZ G (h 22) 60 sk, aZ G (h 23) 60 ((F_X5_goTo ka kb kc mo ki am sk dn n mm).2)] := by
  refine CV_of (own := RX5) (by decide +kernel) rfl rfl (Nat.le_of_ble_eq_true rfl) ?_
  intro pP eE sS mM args below meth cC A S hK hr hlk hmn hW ls hl
  have hx := S.1
  have hb := S.2.1
  have hl : lv_has ls 3 [(0, .ref (h 18)), (1, .int (nI mm))] := hl
  have hW : Wd G A sS.heap [cM h (ka, kb, kc, kd, (nI n)) v t, aI G (h 19) 60 mo, aI G (h 20) 60 ki, aI G (h 21) 60 am, aZ G (h 22) 60 sk, aZ G (h 23) 60 dn] sS.heap [] := hW
  have key : ∀ (d i : Nat) (v9 : S7) (dn9 : (Nat → Bool)), i + d = mm → Lp_X5_goTo ka kb kc mo ki am sk n d i v9 dn9 = (F_X5_goTo ka kb kc mo ki am sk dn n mm) → ∀ (H : Heap) (locs : List Loc) (ls : Array Slot), Wd G A sS.heap [cM h (ka, kb, kc, kd, (nI n)) v9 t, aI G (h 19) 60 mo, aI G (h 20) 60 ki, aI G (h 21) 60 am, aZ G (h 22) 60 sk, aZ G (h 23) 60 dn9] H locs → lv_has ls 3 [(2, .int (nI i)), (0, .ref (h 18)), (1, .int (nI mm))] → W pP l eE rm_X5_goTo sS mM args below meth cC H locs 0 0 (MQ below (QV G A [cM h (ka, kb, kc, kd, (nI n)) ((F_X5_goTo ka kb kc mo ki am sk dn n mm).1) t, aI G (h 19) 60 mo, aI G (h 20) 60 ki, aI G (h 21) 60 am, aZ G (h 22) 60 sk, aZ G (h 23) 60 ((F_X5_goTo ka kb kc mo ki am sk dn n mm).2)]) args sS 0 0 A) (F0 mM 6 ls []) := by
    intro d
    induction d with
    | zero =>
      intro i v9 dn9 hi hF H locs ls hW hl
      have hc : nI mm ≤ nI i := nI_le (by omega) (by omega)
      refine lv_iload_n hx hb dX5_goTo_6 rfl (lv_at hl 0 rfl) ?_
      refine lv_iload_n hx hb dX5_goTo_7 rfl (lv_at hl 2 rfl) ?_
      refine lv_icmp_ge (tgt := 27) hx hb dX5_goTo_8 (by decide) (fun c_1 => ?_) (fun c_1 => ?_)
      ·
        have eF : (F_X5_goTo ka kb kc mo ki am sk dn n mm) = (v9, dn9) := hF.symm.trans (by
          rw [Lp_X5_goTo])
        exact k_vret (wf := [cM h (ka, kb, kc, kd, (nI n)) v9 t, aI G (h 19) 60 mo, aI G (h 20) 60 ki, aI G (h 21) 60 am, aZ G (h 22) 60 sk, aZ G (h 23) 60 dn9]) S hr hlk hK hW [0, 1, 2, 3, 4, 5] rfl rfl (congrArg (fun (z : S7 × (Nat → Bool)) => [cM h (ka, kb, kc, kd, (nI n)) z.1 t, aI G (h 19) 60 mo, aI G (h 20) 60 ki, aI G (h 21) 60 am, aZ G (h 22) 60 sk, aZ G (h 23) 60 z.2]) eF).symm dX5_goTo_27
      ·
        exact absurd hc c_1
    | succ d ih =>
      intro i v9 dn9 hi hF H locs ls hW hl
      have hc : ¬ nI mm ≤ nI i := nI_ge (by omega) (by omega)
      refine lv_iload_n hx hb dX5_goTo_6 rfl (lv_at hl 0 rfl) ?_
      refine lv_iload_n hx hb dX5_goTo_7 rfl (lv_at hl 2 rfl) ?_
      refine lv_icmp_ge (tgt := 27) hx hb dX5_goTo_8 (by decide) (fun c_2 => ?_) (fun c_2 => ?_)
      ·
        exact absurd c_2 hc
      ·
        refine lv_aload_n hx hb dX5_goTo_11 rfl (lv_at hl 1 rfl) ?_
        refine lv_iload_n hx hb dX5_goTo_12 rfl (lv_at hl 0 rfl) ?_
        refine k_callVv (C := RX5) (As := [.int (nI i)]) (rest := []) (wr := []) (c_X5_doActs l G h ka kb kc kd v9 t mo ki am sk dn9 (nI i) n (by omega)) S hK hW gX5_goTo_X5_doActs rfl ⟨rfl, rfl⟩ nd_X5_doActs ⟨rfl, rfl⟩ (qb := 0) (ci := 5) rfl rfl [0, 1, 2, 3, 4, 5] [] rfl rfl rfl rfl (by decide) rfl hl.1 rfl dX5_goTo_13 ⟨Nat.zero_le _, Nat.zero_le _⟩ (fun H locs hW => ?_)
        have hW : Wd G A sS.heap [cM h (ka, kb, kc, kd, (nI n)) ((F_X5_doActs ka kb kc v9 mo ki am sk dn9 (nI i) n).1) t, aI G (h 19) 60 mo, aI G (h 20) 60 ki, aI G (h 21) 60 am, aZ G (h 22) 60 sk, aZ G (h 23) 60 ((F_X5_doActs ka kb kc v9 mo ki am sk dn9 (nI i) n).2)] H locs := hW
        refine lv_aload_n hx hb dX5_goTo_16 rfl (lv_at hl 1 rfl) ?_
        refine lv_iload_n hx hb dX5_goTo_17 rfl (lv_at hl 0 rfl) ?_
        refine k_callVv (C := RX5) (As := [.int (nI i)]) (rest := []) (wr := [aI G (h 19) 60 mo, aI G (h 20) 60 ki, aI G (h 21) 60 am, aZ G (h 22) 60 sk, aZ G (h 23) 60 ((F_X5_doActs ka kb kc v9 mo ki am sk dn9 (nI i) n).2)]) (c_X5_closeMonth l G h ka kb kc kd (nI n) ((F_X5_doActs ka kb kc v9 mo ki am sk dn9 (nI i) n).1) t (nI i)) S hK hW gX5_goTo_X5_closeMonth rfl ⟨rfl, rfl⟩ nd_X5_closeMonth ⟨rfl, rfl⟩ (qb := 0) (ci := 5) rfl rfl [0] [1, 2, 3, 4, 5] rfl rfl rfl rfl (by decide) rfl hl.1 rfl dX5_goTo_18 ⟨Nat.zero_le _, Nat.zero_le _⟩ (fun H locs hW => ?_)
        have hW : Wd G A sS.heap [aI G (h 19) 60 mo, aI G (h 20) 60 ki, aI G (h 21) 60 am, aZ G (h 22) 60 sk, aZ G (h 23) 60 ((F_X5_doActs ka kb kc v9 mo ki am sk dn9 (nI i) n).2), cM h (ka, kb, kc, kd, (nI n)) (F_X5_closeMonth ka kb kc ((F_X5_doActs ka kb kc v9 mo ki am sk dn9 (nI i) n).1) (nI i)) t] H locs := hW
        refine lv_iinc (v := (nI i + 1)) (lv' := [(2, .int (nI i + 1)), (0, .ref (h 18)), (1, .int (nI mm))]) hx hb dX5_goTo_21 hl (k := 0) rfl rfl (by decide) rfl (fun ls hl => ?_)
        refine lv_goto (tgt := 6) hx hb dX5_goTo_24 (by decide) ?_
        have eS : Lp_X5_goTo ka kb kc mo ki am sk n (d + 1) i v9 dn9 = Lp_X5_goTo ka kb kc mo ki am sk n d (i + 1) (F_X5_closeMonth ka kb kc ((F_X5_doActs ka kb kc v9 mo ki am sk dn9 (nI i) n).1) (nI i)) ((F_X5_doActs ka kb kc v9 mo ki am sk dn9 (nI i) n).2) := by
          rw [Lp_X5_goTo]
        have hl : lv_has ls 3 [(2, .int (nI (i + 1))), (0, .ref (h 18)), (1, .int (nI mm))] := by
          first | exact lv_sub hl [0, 1, 2] rfl | (rw [← nI_1]; exact lv_sub hl [0, 1, 2] rfl)
        exact ih (i + 1) (F_X5_closeMonth ka kb kc ((F_X5_doActs ka kb kc v9 mo ki am sk dn9 (nI i) n).1) (nI i)) ((F_X5_doActs ka kb kc v9 mo ki am sk dn9 (nI i) n).2) (by omega) (eS.symm.trans hF) _ _ _ (hW.re [5, 0, 1, 2, 3, 4] rfl rfl) hl
  refine lv_aload_n hx hb dX5_goTo_0 rfl (lv_at hl 0 rfl) ?_
  refine k_callVv (C := RX5) (As := []) (rest := []) (wr := [aI G (h 19) 60 mo, aI G (h 20) 60 ki, aI G (h 21) 60 am, aZ G (h 22) 60 sk, aZ G (h 23) 60 dn]) (c_X5_start l G h ka kb kc kd (nI n) v t) S hK hW gX5_goTo_X5_start rfl ⟨rfl, rfl⟩ nd_X5_start ⟨rfl, rfl⟩ (qb := 0) (ci := 5) rfl rfl [0] [1, 2, 3, 4, 5] rfl rfl rfl rfl (by decide) rfl hl.1 rfl dX5_goTo_1 ⟨Nat.zero_le _, Nat.zero_le _⟩ (fun H locs hW => ?_)
  have hW : Wd G A sS.heap [aI G (h 19) 60 mo, aI G (h 20) 60 ki, aI G (h 21) 60 am, aZ G (h 22) 60 sk, aZ G (h 23) 60 dn, cM h (ka, kb, kc, kd, (nI n)) F_X5_start t] H locs := hW
  refine lv_iconst (v := 0) hx hb dX5_goTo_4 (by decide) ?_
  refine lv_istore_n (lv' := [(2, .int 0), (0, .ref (h 18)), (1, .int (nI mm))]) hx hb dX5_goTo_5 rfl hl (by decide) rfl (fun ls hl => ?_)
  have eF : (F_X5_goTo ka kb kc mo ki am sk dn n mm) = Lp_X5_goTo ka kb kc mo ki am sk n mm 0 F_X5_start dn := by
    rfl
  exact key mm 0 F_X5_start dn (by omega) eF.symm _ _ _ (hW.re [5, 0, 1, 2, 3, 4] rfl rfl) (lv_sub hl [0, 1, 2] (by rw [nI_0] <;> rfl))
def F_X5_goNow (ka : Int32) (kb : Int32) (kc : Int32) (mo : (Nat → Int32)) (ki : (Nat → Int32)) (am : (Nat → Int32)) (sk : (Nat → Bool)) (dn : (Nat → Bool)) (np : Nat) (n : Nat) : S7 × (Nat → Bool) :=
  (((F_X5_doActs ka kb kc ((F_X5_goTo ka kb kc mo ki am sk dn n np).1) mo ki am sk ((F_X5_goTo ka kb kc mo ki am sk dn n np).2) (nI np) n).1), (F_X5_doActs ka kb kc ((F_X5_goTo ka kb kc mo ki am sk dn n np).1) mo ki am sk ((F_X5_goTo ka kb kc mo ki am sk dn n np).2) (nI np) n).2)
set_option maxRecDepth 100000 in
theorem k_X5_goNow_f122 : Cond.fieldLink RX5 122 "FlexiblePolicyModel" "now" "I" ∈ wsX5_goNow := by decide +kernel
set_option maxRecDepth 100000 in
theorem k_X5_goNow_in5 : ∀ w ∈ u_ws RX5 TX5 18, w ∈ wsX5_goNow := by decide +kernel
theorem nd_X5_goNow : yX5_goNow.cls = RX5 ∧ yX5_goNow.cls ≠ "java/lang/invoke/MethodHandle" ∧ yX5_goNow.cls ≠ "java/lang/invoke/VarHandle" ∧ (parseMethodDescriptor yX5_goNow.desc).map (fun d => d.parameters.length) = some 0 := by decide +kernel
abbrev rm_X5_goNow : Room := { frames := 5, cells := 0, slots := 0, locals := 116 }
set_option maxHeartbeats 4000000 in
set_option maxRecDepth 100000 in
theorem c_X5_goNow (l : Launch) (G : GG) (h : Nat → Nat) (ka : Int32) (kb : Int32) (kc : Int32) (v : S7) (t : Int32) (mo : (Nat → Int32)) (ki : (Nat → Int32)) (am : (Nat → Int32)) (sk : (Nat → Bool)) (dn : (Nat → Bool)) (np : Nat) (n : Nat) (hn : n ≤ 60) (hp : np ≤ 120) : CV l G yX5_goNow wsX5_goNow rm_X5_goNow [.ref (h 18)] [cM h (ka, kb, kc, (nI np), (nI n)) v t, aI G (h 19) 60 mo, aI G (h 20) 60 ki, aI G (h 21) 60 am, aZ G (h 22) 60 sk, aZ G (h 23) 60 dn] [cM h (ka, kb, kc, (nI np), (nI n)) ((F_X5_goNow ka kb kc mo ki am sk dn np n).1) t, aI G (h 19) 60 mo, aI G (h 20) 60 ki, aI G (h 21) 60 am, aZ G (h 22) 60 sk, aZ G (h 23) 60 ((F_X5_goNow ka kb kc mo ki am sk dn np n).2)] := by
  refine CV_of (own := RX5) (by decide +kernel) rfl rfl (Nat.le_of_ble_eq_true rfl) ?_
  intro pP eE sS mM args below meth cC A S hK hr hlk hmn hW ls hl
  have hx := S.1
  have hb := S.2.1
  have hl : lv_has ls 1 [(0, .ref (h 18))] := hl
  have hW : Wd G A sS.heap [cM h (ka, kb, kc, (nI np), (nI n)) v t, aI G (h 19) 60 mo, aI G (h 20) 60 ki, aI G (h 21) 60 am, aZ G (h 22) 60 sk, aZ G (h 23) 60 dn] sS.heap [] := hW
  refine lv_aload_n hx hb dX5_goNow_0 rfl (lv_at hl 0 rfl) ?_
  refine lv_aload_n hx hb dX5_goNow_1 rfl (lv_at hl 0 rfl) ?_
  refine k_get (C := RX5) (T := TX5) (N := 18) (ci := 5) (v := .int (nI np)) S hK hW k_X5_goNow_in5 0 3 rfl rfl (by decide) k_X5_goNow_f122 rfl dX5_goNow_2 ?_
  refine k_callVv (C := RX5) (As := [.int (nI np)]) (rest := []) (wr := []) (c_X5_goTo l G h ka kb kc (nI np) v t mo ki am sk dn n np (by omega) (by omega)) S hK hW gX5_goNow_X5_goTo rfl ⟨rfl, rfl⟩ nd_X5_goTo ⟨rfl, rfl⟩ (qb := 0) (ci := 5) rfl rfl [0, 1, 2, 3, 4, 5] [] rfl rfl rfl rfl (by decide) rfl hl.1 rfl dX5_goNow_5 ⟨Nat.zero_le _, Nat.zero_le _⟩ (fun H locs hW => ?_)
  have hW : Wd G A sS.heap [cM h (ka, kb, kc, (nI np), (nI n)) ((F_X5_goTo ka kb kc mo ki am sk dn n np).1) t, aI G (h 19) 60 mo, aI G (h 20) 60 ki, aI G (h 21) 60 am, aZ G (h 22) 60 sk, aZ G (h 23) 60 ((F_X5_goTo ka kb kc mo ki am sk dn n np).2)] H locs := hW
  refine lv_aload_n hx hb dX5_goNow_8 rfl (lv_at hl 0 rfl) ?_
  refine lv_aload_n hx hb dX5_goNow_9 rfl (lv_at hl 0 rfl) ?_
  refine k_get (C := RX5) (T := TX5) (N := 18) (ci := 5) (v := .int (nI np)) S hK hW k_X5_goNow_in5 0 3 rfl rfl (by decide) k_X5_goNow_f122 rfl dX5_goNow_10 ?_
  refine k_callVv (C := RX5) (As := [.int (nI np)]) (rest := []) (wr := []) (c_X5_doActs l G h ka kb kc (nI np) ((F_X5_goTo ka kb kc mo ki am sk dn n np).1) t mo ki am sk ((F_X5_goTo ka kb kc mo ki am sk dn n np).2) (nI np) n (by omega)) S hK hW gX5_goNow_X5_doActs rfl ⟨rfl, rfl⟩ nd_X5_doActs ⟨rfl, rfl⟩ (qb := 0) (ci := 5) rfl rfl [0, 1, 2, 3, 4, 5] [] rfl rfl rfl rfl (by decide) rfl hl.1 rfl dX5_goNow_13 ⟨Nat.zero_le _, Nat.zero_le _⟩ (fun H locs hW => ?_)
  have hW : Wd G A sS.heap [cM h (ka, kb, kc, (nI np), (nI n)) ((F_X5_doActs ka kb kc ((F_X5_goTo ka kb kc mo ki am sk dn n np).1) mo ki am sk ((F_X5_goTo ka kb kc mo ki am sk dn n np).2) (nI np) n).1) t, aI G (h 19) 60 mo, aI G (h 20) 60 ki, aI G (h 21) 60 am, aZ G (h 22) 60 sk, aZ G (h 23) 60 ((F_X5_doActs ka kb kc ((F_X5_goTo ka kb kc mo ki am sk dn n np).1) mo ki am sk ((F_X5_goTo ka kb kc mo ki am sk dn n np).2) (nI np) n).2)] H locs := hW
  have eF : (F_X5_goNow ka kb kc mo ki am sk dn np n) = (((F_X5_doActs ka kb kc ((F_X5_goTo ka kb kc mo ki am sk dn n np).1) mo ki am sk ((F_X5_goTo ka kb kc mo ki am sk dn n np).2) (nI np) n).1), (F_X5_doActs ka kb kc ((F_X5_goTo ka kb kc mo ki am sk dn n np).1) mo ki am sk ((F_X5_goTo ka kb kc mo ki am sk dn n np).2) (nI np) n).2) := by
    rfl
  exact k_vret (wf := [cM h (ka, kb, kc, (nI np), (nI n)) ((F_X5_doActs ka kb kc ((F_X5_goTo ka kb kc mo ki am sk dn n np).1) mo ki am sk ((F_X5_goTo ka kb kc mo ki am sk dn n np).2) (nI np) n).1) t, aI G (h 19) 60 mo, aI G (h 20) 60 ki, aI G (h 21) 60 am, aZ G (h 22) 60 sk, aZ G (h 23) 60 ((F_X5_doActs ka kb kc ((F_X5_goTo ka kb kc mo ki am sk dn n np).1) mo ki am sk ((F_X5_goTo ka kb kc mo ki am sk dn n np).2) (nI np) n).2)]) S hr hlk hK hW [0, 1, 2, 3, 4, 5] rfl rfl (congrArg (fun (z : S7 × (Nat → Bool)) => [cM h (ka, kb, kc, (nI np), (nI n)) z.1 t, aI G (h 19) 60 mo, aI G (h 20) 60 ki, aI G (h 21) 60 am, aZ G (h 22) 60 sk, aZ G (h 23) 60 z.2]) eF).symm dX5_goNow_16
def F_X5_look (ka : Int32) (kb : Int32) (kc : Int32) (mo : (Nat → Int32)) (ki : (Nat → Int32)) (am : (Nat → Int32)) (sk : (Nat → Bool)) (dn : (Nat → Bool)) (np : Nat) (n : Nat) : S7 × Int32 × (Nat → Bool) :=
  (((F_X5_goNow ka kb kc mo ki am sk dn np n).1), 0, (F_X5_goNow ka kb kc mo ki am sk dn np n).2)
set_option maxRecDepth 100000 in
theorem k_X5_look_f34 : Cond.fieldLink RX5 34 "FlexiblePolicyModel" "thrown" "I" ∈ wsX5_look := by decide +kernel
set_option maxRecDepth 100000 in
theorem k_X5_look_in5 : ∀ w ∈ u_ws RX5 TX5 18, w ∈ wsX5_look := by decide +kernel
theorem nd_X5_look : yX5_look.cls = RX5 ∧ yX5_look.cls ≠ "java/lang/invoke/MethodHandle" ∧ yX5_look.cls ≠ "java/lang/invoke/VarHandle" ∧ (parseMethodDescriptor yX5_look.desc).map (fun d => d.parameters.length) = some 0 := by decide +kernel
abbrev rm_X5_look : Room := { frames := 6, cells := 0, slots := 0, locals := 136 }
set_option maxHeartbeats 4000000 in
set_option maxRecDepth 100000 in
theorem c_X5_look (l : Launch) (G : GG) (h : Nat → Nat) (ka : Int32) (kb : Int32) (kc : Int32) (v : S7) (t : Int32) (mo : (Nat → Int32)) (ki : (Nat → Int32)) (am : (Nat → Int32)) (sk : (Nat → Bool)) (dn : (Nat → Bool)) (np : Nat) (n : Nat) (hn : n ≤ 60) (hp : np ≤ 120) : CV l G yX5_look wsX5_look rm_X5_look [.ref (h 18)] [cM h (ka, kb, kc, (nI np), (nI n)) v t, aI G (h 19) 60 mo, aI G (h 20) 60 ki, aI G (h 21) 60 am, aZ G (h 22) 60 sk, aZ G (h 23) 60 dn] [cM h (ka, kb, kc, (nI np), (nI n)) ((F_X5_look ka kb kc mo ki am sk dn np n).1) ((F_X5_look ka kb kc mo ki am sk dn np n).2.1), aI G (h 19) 60 mo, aI G (h 20) 60 ki, aI G (h 21) 60 am, aZ G (h 22) 60 sk, aZ G (h 23) 60 ((F_X5_look ka kb kc mo ki am sk dn np n).2.2)] := by
  refine CV_of (own := RX5) (by decide +kernel) rfl rfl (Nat.le_of_ble_eq_true rfl) ?_
  intro pP eE sS mM args below meth cC A S hK hr hlk hmn hW ls hl
  have hx := S.1
  have hb := S.2.1
  have hl : lv_has ls 1 [(0, .ref (h 18))] := hl
  have hW : Wd G A sS.heap [cM h (ka, kb, kc, (nI np), (nI n)) v t, aI G (h 19) 60 mo, aI G (h 20) 60 ki, aI G (h 21) 60 am, aZ G (h 22) 60 sk, aZ G (h 23) 60 dn] sS.heap [] := hW
  refine lv_aload_n hx hb dX5_look_0 rfl (lv_at hl 0 rfl) ?_
  refine lv_iconst (v := 0) hx hb dX5_look_1 (by decide) ?_
  refine k_put (C := RX5) (T := TX5) (N := 18) (ci := 5) (v := .int 0) (ws' := [cM h (ka, kb, kc, (nI np), (nI n)) v 0, aI G (h 19) 60 mo, aI G (h 20) 60 ki, aI G (h 21) 60 am, aZ G (h 22) 60 sk, aZ G (h 23) 60 dn]) S hK hW k_X5_look_in5 tyX5_ok nmX5 0 17 rfl rfl (by decide) k_X5_look_f34 rfl rfl rfl rfl rfl dX5_look_2 (fun H locs hW => ?_)
  refine lv_aload_n hx hb dX5_look_5 rfl (lv_at hl 0 rfl) ?_
  refine k_callVv (C := RX5) (As := []) (rest := []) (wr := []) (c_X5_goNow l G h ka kb kc v 0 mo ki am sk dn np n (by omega) (by omega)) S hK hW gX5_look_X5_goNow rfl ⟨rfl, rfl⟩ nd_X5_goNow ⟨rfl, rfl⟩ (qb := 0) (ci := 5) rfl rfl [0, 1, 2, 3, 4, 5] [] rfl rfl rfl rfl (by decide) rfl hl.1 rfl dX5_look_6 ⟨Nat.zero_le _, Nat.zero_le _⟩ (fun H locs hW => ?_)
  have hW : Wd G A sS.heap [cM h (ka, kb, kc, (nI np), (nI n)) ((F_X5_goNow ka kb kc mo ki am sk dn np n).1) 0, aI G (h 19) 60 mo, aI G (h 20) 60 ki, aI G (h 21) 60 am, aZ G (h 22) 60 sk, aZ G (h 23) 60 ((F_X5_goNow ka kb kc mo ki am sk dn np n).2)] H locs := hW
  have eF : (F_X5_look ka kb kc mo ki am sk dn np n) = (((F_X5_goNow ka kb kc mo ki am sk dn np n).1), 0, (F_X5_goNow ka kb kc mo ki am sk dn np n).2) := by
    rfl
  exact k_vret (wf := [cM h (ka, kb, kc, (nI np), (nI n)) ((F_X5_goNow ka kb kc mo ki am sk dn np n).1) 0, aI G (h 19) 60 mo, aI G (h 20) 60 ki, aI G (h 21) 60 am, aZ G (h 22) 60 sk, aZ G (h 23) 60 ((F_X5_goNow ka kb kc mo ki am sk dn np n).2)]) S hr hlk hK hW [0, 1, 2, 3, 4, 5] rfl rfl (congrArg (fun (z : S7 × Int32 × (Nat → Bool)) => [cM h (ka, kb, kc, (nI np), (nI n)) z.1 z.2.1, aI G (h 19) 60 mo, aI G (h 20) 60 ki, aI G (h 21) 60 am, aZ G (h 22) 60 sk, aZ G (h 23) 60 z.2.2]) eF).symm dX5_look_9
def F_X5_state (ka : Int32) (kb : Int32) (kc : Int32) (mo : (Nat → Int32)) (ki : (Nat → Int32)) (am : (Nat → Int32)) (sk : (Nat → Bool)) (dn : (Nat → Bool)) (np : Nat) (n : Nat) : Int32 × S7 × Int32 × (Nat → Bool) :=
  (((F_X5_look ka kb kc mo ki am sk dn np n).1).1, ((F_X5_look ka kb kc mo ki am sk dn np n).1), (F_X5_look ka kb kc mo ki am sk dn np n).2.1, (F_X5_look ka kb kc mo ki am sk dn np n).2.2)
set_option maxRecDepth 100000 in
theorem k_X5_state_f61 : Cond.fieldLink RX5 61 "FlexiblePolicyModel" "state" "I" ∈ wsX5_state := by decide +kernel
set_option maxRecDepth 100000 in
theorem k_X5_state_in5 : ∀ w ∈ u_ws RX5 TX5 18, w ∈ wsX5_state := by decide +kernel
theorem nd_X5_state : yX5_state.cls = RX5 ∧ yX5_state.cls ≠ "java/lang/invoke/MethodHandle" ∧ yX5_state.cls ≠ "java/lang/invoke/VarHandle" ∧ (parseMethodDescriptor yX5_state.desc).map (fun d => d.parameters.length) = some 0 := by decide +kernel
abbrev rm_X5_state : Room := { frames := 7, cells := 0, slots := 0, locals := 156 }
set_option maxHeartbeats 4000000 in
set_option maxRecDepth 100000 in
theorem c_X5_state (l : Launch) (G : GG) (h : Nat → Nat) (ka : Int32) (kb : Int32) (kc : Int32) (v : S7) (t : Int32) (mo : (Nat → Int32)) (ki : (Nat → Int32)) (am : (Nat → Int32)) (sk : (Nat → Bool)) (dn : (Nat → Bool)) (np : Nat) (n : Nat) (hn : n ≤ 60) (hp : np ≤ 120) : CI l G yX5_state wsX5_state rm_X5_state [.ref (h 18)] [cM h (ka, kb, kc, (nI np), (nI n)) v t, aI G (h 19) 60 mo, aI G (h 20) 60 ki, aI G (h 21) 60 am, aZ G (h 22) 60 sk, aZ G (h 23) 60 dn] ((F_X5_state ka kb kc mo ki am sk dn np n).1) [cM h (ka, kb, kc, (nI np), (nI n)) ((F_X5_state ka kb kc mo ki am sk dn np n).2.1) ((F_X5_state ka kb kc mo ki am sk dn np n).2.2.1), aI G (h 19) 60 mo, aI G (h 20) 60 ki, aI G (h 21) 60 am, aZ G (h 22) 60 sk, aZ G (h 23) 60 ((F_X5_state ka kb kc mo ki am sk dn np n).2.2.2)] := by
  refine CI_of (own := RX5) (by decide +kernel) rfl rfl (Nat.le_of_ble_eq_true rfl) ?_
  intro pP eE sS mM args below meth cC A S hK hr hlk hmn hW ls hl
  have hx := S.1
  have hb := S.2.1
  have hl : lv_has ls 1 [(0, .ref (h 18))] := hl
  have hW : Wd G A sS.heap [cM h (ka, kb, kc, (nI np), (nI n)) v t, aI G (h 19) 60 mo, aI G (h 20) 60 ki, aI G (h 21) 60 am, aZ G (h 22) 60 sk, aZ G (h 23) 60 dn] sS.heap [] := hW
  refine lv_aload_n hx hb dX5_state_0 rfl (lv_at hl 0 rfl) ?_
  refine k_callVv (C := RX5) (As := []) (rest := []) (wr := []) (c_X5_look l G h ka kb kc v t mo ki am sk dn np n (by omega) (by omega)) S hK hW gX5_state_X5_look rfl ⟨rfl, rfl⟩ nd_X5_look ⟨rfl, rfl⟩ (qb := 0) (ci := 5) rfl rfl [0, 1, 2, 3, 4, 5] [] rfl rfl rfl rfl (by decide) rfl hl.1 rfl dX5_state_1 ⟨Nat.zero_le _, Nat.zero_le _⟩ (fun H locs hW => ?_)
  have hW : Wd G A sS.heap [cM h (ka, kb, kc, (nI np), (nI n)) ((F_X5_look ka kb kc mo ki am sk dn np n).1) ((F_X5_look ka kb kc mo ki am sk dn np n).2.1), aI G (h 19) 60 mo, aI G (h 20) 60 ki, aI G (h 21) 60 am, aZ G (h 22) 60 sk, aZ G (h 23) 60 ((F_X5_look ka kb kc mo ki am sk dn np n).2.2)] H locs := hW
  refine lv_aload_n hx hb dX5_state_4 rfl (lv_at hl 0 rfl) ?_
  refine k_get (C := RX5) (T := TX5) (N := 18) (ci := 5) (v := .int (((F_X5_look ka kb kc mo ki am sk dn np n).1).1)) S hK hW k_X5_state_in5 0 10 rfl rfl (by decide) k_X5_state_f61 rfl dX5_state_5 ?_
  have eF : (F_X5_state ka kb kc mo ki am sk dn np n) = (((F_X5_look ka kb kc mo ki am sk dn np n).1).1, ((F_X5_look ka kb kc mo ki am sk dn np n).1), (F_X5_look ka kb kc mo ki am sk dn np n).2.1, (F_X5_look ka kb kc mo ki am sk dn np n).2.2) := by
    rfl
  exact k_iret (wf := [cM h (ka, kb, kc, (nI np), (nI n)) ((F_X5_look ka kb kc mo ki am sk dn np n).1) ((F_X5_look ka kb kc mo ki am sk dn np n).2.1), aI G (h 19) 60 mo, aI G (h 20) 60 ki, aI G (h 21) 60 am, aZ G (h 22) 60 sk, aZ G (h 23) 60 ((F_X5_look ka kb kc mo ki am sk dn np n).2.2)]) S hr hlk hK hW [0, 1, 2, 3, 4, 5] rfl rfl (congrArg (fun (z : Int32 × S7 × Int32 × (Nat → Bool)) => [cM h (ka, kb, kc, (nI np), (nI n)) z.2.1 z.2.2.1, aI G (h 19) 60 mo, aI G (h 20) 60 ki, aI G (h 21) 60 am, aZ G (h 22) 60 sk, aZ G (h 23) 60 z.2.2.2]) eF).symm (congrArg (fun (z : Int32 × S7 × Int32 × (Nat → Bool)) => z.1) eF).symm dX5_state_8
def F_X5_account (ka : Int32) (kb : Int32) (kc : Int32) (mo : (Nat → Int32)) (ki : (Nat → Int32)) (am : (Nat → Int32)) (sk : (Nat → Bool)) (dn : (Nat → Bool)) (np : Nat) (n : Nat) : Int32 × S7 × Int32 × (Nat → Bool) :=
  (((F_X5_look ka kb kc mo ki am sk dn np n).1).2.1, ((F_X5_look ka kb kc mo ki am sk dn np n).1), (F_X5_look ka kb kc mo ki am sk dn np n).2.1, (F_X5_look ka kb kc mo ki am sk dn np n).2.2)
set_option maxRecDepth 100000 in
theorem k_X5_account_f40 : Cond.fieldLink RX5 40 "FlexiblePolicyModel" "account" "I" ∈ wsX5_account := by decide +kernel
set_option maxRecDepth 100000 in
theorem k_X5_account_in5 : ∀ w ∈ u_ws RX5 TX5 18, w ∈ wsX5_account := by decide +kernel
theorem nd_X5_account : yX5_account.cls = RX5 ∧ yX5_account.cls ≠ "java/lang/invoke/MethodHandle" ∧ yX5_account.cls ≠ "java/lang/invoke/VarHandle" ∧ (parseMethodDescriptor yX5_account.desc).map (fun d => d.parameters.length) = some 0 := by decide +kernel
abbrev rm_X5_account : Room := { frames := 7, cells := 0, slots := 0, locals := 156 }
set_option maxHeartbeats 4000000 in
set_option maxRecDepth 100000 in
theorem c_X5_account (l : Launch) (G : GG) (h : Nat → Nat) (ka : Int32) (kb : Int32) (kc : Int32) (v : S7) (t : Int32) (mo : (Nat → Int32)) (ki : (Nat → Int32)) (am : (Nat → Int32)) (sk : (Nat → Bool)) (dn : (Nat → Bool)) (np : Nat) (n : Nat) (hn : n ≤ 60) (hp : np ≤ 120) : CI l G yX5_account wsX5_account rm_X5_account [.ref (h 18)] [cM h (ka, kb, kc, (nI np), (nI n)) v t, aI G (h 19) 60 mo, aI G (h 20) 60 ki, aI G (h 21) 60 am, aZ G (h 22) 60 sk, aZ G (h 23) 60 dn] ((F_X5_account ka kb kc mo ki am sk dn np n).1) [cM h (ka, kb, kc, (nI np), (nI n)) ((F_X5_account ka kb kc mo ki am sk dn np n).2.1) ((F_X5_account ka kb kc mo ki am sk dn np n).2.2.1), aI G (h 19) 60 mo, aI G (h 20) 60 ki, aI G (h 21) 60 am, aZ G (h 22) 60 sk, aZ G (h 23) 60 ((F_X5_account ka kb kc mo ki am sk dn np n).2.2.2)] := by
  refine CI_of (own := RX5) (by decide +kernel) rfl rfl (Nat.le_of_ble_eq_true rfl) ?_
  intro pP eE sS mM args below meth cC A S hK hr hlk hmn hW ls hl
  have hx := S.1
  have hb := S.2.1
  have hl : lv_has ls 1 [(0, .ref (h 18))] := hl
  have hW : Wd G A sS.heap [cM h (ka, kb, kc, (nI np), (nI n)) v t, aI G (h 19) 60 mo, aI G (h 20) 60 ki, aI G (h 21) 60 am, aZ G (h 22) 60 sk, aZ G (h 23) 60 dn] sS.heap [] := hW
  refine lv_aload_n hx hb dX5_account_0 rfl (lv_at hl 0 rfl) ?_
  refine k_callVv (C := RX5) (As := []) (rest := []) (wr := []) (c_X5_look l G h ka kb kc v t mo ki am sk dn np n (by omega) (by omega)) S hK hW gX5_account_X5_look rfl ⟨rfl, rfl⟩ nd_X5_look ⟨rfl, rfl⟩ (qb := 0) (ci := 5) rfl rfl [0, 1, 2, 3, 4, 5] [] rfl rfl rfl rfl (by decide) rfl hl.1 rfl dX5_account_1 ⟨Nat.zero_le _, Nat.zero_le _⟩ (fun H locs hW => ?_)
  have hW : Wd G A sS.heap [cM h (ka, kb, kc, (nI np), (nI n)) ((F_X5_look ka kb kc mo ki am sk dn np n).1) ((F_X5_look ka kb kc mo ki am sk dn np n).2.1), aI G (h 19) 60 mo, aI G (h 20) 60 ki, aI G (h 21) 60 am, aZ G (h 22) 60 sk, aZ G (h 23) 60 ((F_X5_look ka kb kc mo ki am sk dn np n).2.2)] H locs := hW
  refine lv_aload_n hx hb dX5_account_4 rfl (lv_at hl 0 rfl) ?_
  refine k_get (C := RX5) (T := TX5) (N := 18) (ci := 5) (v := .int (((F_X5_look ka kb kc mo ki am sk dn np n).1).2.1)) S hK hW k_X5_account_in5 0 11 rfl rfl (by decide) k_X5_account_f40 rfl dX5_account_5 ?_
  have eF : (F_X5_account ka kb kc mo ki am sk dn np n) = (((F_X5_look ka kb kc mo ki am sk dn np n).1).2.1, ((F_X5_look ka kb kc mo ki am sk dn np n).1), (F_X5_look ka kb kc mo ki am sk dn np n).2.1, (F_X5_look ka kb kc mo ki am sk dn np n).2.2) := by
    rfl
  exact k_iret (wf := [cM h (ka, kb, kc, (nI np), (nI n)) ((F_X5_look ka kb kc mo ki am sk dn np n).1) ((F_X5_look ka kb kc mo ki am sk dn np n).2.1), aI G (h 19) 60 mo, aI G (h 20) 60 ki, aI G (h 21) 60 am, aZ G (h 22) 60 sk, aZ G (h 23) 60 ((F_X5_look ka kb kc mo ki am sk dn np n).2.2)]) S hr hlk hK hW [0, 1, 2, 3, 4, 5] rfl rfl (congrArg (fun (z : Int32 × S7 × Int32 × (Nat → Bool)) => [cM h (ka, kb, kc, (nI np), (nI n)) z.2.1 z.2.2.1, aI G (h 19) 60 mo, aI G (h 20) 60 ki, aI G (h 21) 60 am, aZ G (h 22) 60 sk, aZ G (h 23) 60 z.2.2.2]) eF).symm (congrArg (fun (z : Int32 × S7 × Int32 × (Nat → Bool)) => z.1) eF).symm dX5_account_8
def F_X5_loan (ka : Int32) (kb : Int32) (kc : Int32) (mo : (Nat → Int32)) (ki : (Nat → Int32)) (am : (Nat → Int32)) (sk : (Nat → Bool)) (dn : (Nat → Bool)) (np : Nat) (n : Nat) : Int32 × S7 × Int32 × (Nat → Bool) :=
  (((F_X5_look ka kb kc mo ki am sk dn np n).1).2.2.1, ((F_X5_look ka kb kc mo ki am sk dn np n).1), (F_X5_look ka kb kc mo ki am sk dn np n).2.1, (F_X5_look ka kb kc mo ki am sk dn np n).2.2)
set_option maxRecDepth 100000 in
theorem k_X5_loan_f52 : Cond.fieldLink RX5 52 "FlexiblePolicyModel" "loan" "I" ∈ wsX5_loan := by decide +kernel
set_option maxRecDepth 100000 in
theorem k_X5_loan_in5 : ∀ w ∈ u_ws RX5 TX5 18, w ∈ wsX5_loan := by decide +kernel
theorem nd_X5_loan : yX5_loan.cls = RX5 ∧ yX5_loan.cls ≠ "java/lang/invoke/MethodHandle" ∧ yX5_loan.cls ≠ "java/lang/invoke/VarHandle" ∧ (parseMethodDescriptor yX5_loan.desc).map (fun d => d.parameters.length) = some 0 := by decide +kernel
abbrev rm_X5_loan : Room := { frames := 7, cells := 0, slots := 0, locals := 156 }
set_option maxHeartbeats 4000000 in
set_option maxRecDepth 100000 in
theorem c_X5_loan (l : Launch) (G : GG) (h : Nat → Nat) (ka : Int32) (kb : Int32) (kc : Int32) (v : S7) (t : Int32) (mo : (Nat → Int32)) (ki : (Nat → Int32)) (am : (Nat → Int32)) (sk : (Nat → Bool)) (dn : (Nat → Bool)) (np : Nat) (n : Nat) (hn : n ≤ 60) (hp : np ≤ 120) : CI l G yX5_loan wsX5_loan rm_X5_loan [.ref (h 18)] [cM h (ka, kb, kc, (nI np), (nI n)) v t, aI G (h 19) 60 mo, aI G (h 20) 60 ki, aI G (h 21) 60 am, aZ G (h 22) 60 sk, aZ G (h 23) 60 dn] ((F_X5_loan ka kb kc mo ki am sk dn np n).1) [cM h (ka, kb, kc, (nI np), (nI n)) ((F_X5_loan ka kb kc mo ki am sk dn np n).2.1) ((F_X5_loan ka kb kc mo ki am sk dn np n).2.2.1), aI G (h 19) 60 mo, aI G (h 20) 60 ki, aI G (h 21) 60 am, aZ G (h 22) 60 sk, aZ G (h 23) 60 ((F_X5_loan ka kb kc mo ki am sk dn np n).2.2.2)] := by
  refine CI_of (own := RX5) (by decide +kernel) rfl rfl (Nat.le_of_ble_eq_true rfl) ?_
  intro pP eE sS mM args below meth cC A S hK hr hlk hmn hW ls hl
  have hx := S.1
  have hb := S.2.1
  have hl : lv_has ls 1 [(0, .ref (h 18))] := hl
  have hW : Wd G A sS.heap [cM h (ka, kb, kc, (nI np), (nI n)) v t, aI G (h 19) 60 mo, aI G (h 20) 60 ki, aI G (h 21) 60 am, aZ G (h 22) 60 sk, aZ G (h 23) 60 dn] sS.heap [] := hW
  refine lv_aload_n hx hb dX5_loan_0 rfl (lv_at hl 0 rfl) ?_
  refine k_callVv (C := RX5) (As := []) (rest := []) (wr := []) (c_X5_look l G h ka kb kc v t mo ki am sk dn np n (by omega) (by omega)) S hK hW gX5_loan_X5_look rfl ⟨rfl, rfl⟩ nd_X5_look ⟨rfl, rfl⟩ (qb := 0) (ci := 5) rfl rfl [0, 1, 2, 3, 4, 5] [] rfl rfl rfl rfl (by decide) rfl hl.1 rfl dX5_loan_1 ⟨Nat.zero_le _, Nat.zero_le _⟩ (fun H locs hW => ?_)
  have hW : Wd G A sS.heap [cM h (ka, kb, kc, (nI np), (nI n)) ((F_X5_look ka kb kc mo ki am sk dn np n).1) ((F_X5_look ka kb kc mo ki am sk dn np n).2.1), aI G (h 19) 60 mo, aI G (h 20) 60 ki, aI G (h 21) 60 am, aZ G (h 22) 60 sk, aZ G (h 23) 60 ((F_X5_look ka kb kc mo ki am sk dn np n).2.2)] H locs := hW
  refine lv_aload_n hx hb dX5_loan_4 rfl (lv_at hl 0 rfl) ?_
  refine k_get (C := RX5) (T := TX5) (N := 18) (ci := 5) (v := .int (((F_X5_look ka kb kc mo ki am sk dn np n).1).2.2.1)) S hK hW k_X5_loan_in5 0 12 rfl rfl (by decide) k_X5_loan_f52 rfl dX5_loan_5 ?_
  have eF : (F_X5_loan ka kb kc mo ki am sk dn np n) = (((F_X5_look ka kb kc mo ki am sk dn np n).1).2.2.1, ((F_X5_look ka kb kc mo ki am sk dn np n).1), (F_X5_look ka kb kc mo ki am sk dn np n).2.1, (F_X5_look ka kb kc mo ki am sk dn np n).2.2) := by
    rfl
  exact k_iret (wf := [cM h (ka, kb, kc, (nI np), (nI n)) ((F_X5_look ka kb kc mo ki am sk dn np n).1) ((F_X5_look ka kb kc mo ki am sk dn np n).2.1), aI G (h 19) 60 mo, aI G (h 20) 60 ki, aI G (h 21) 60 am, aZ G (h 22) 60 sk, aZ G (h 23) 60 ((F_X5_look ka kb kc mo ki am sk dn np n).2.2)]) S hr hlk hK hW [0, 1, 2, 3, 4, 5] rfl rfl (congrArg (fun (z : Int32 × S7 × Int32 × (Nat → Bool)) => [cM h (ka, kb, kc, (nI np), (nI n)) z.2.1 z.2.2.1, aI G (h 19) 60 mo, aI G (h 20) 60 ki, aI G (h 21) 60 am, aZ G (h 22) 60 sk, aZ G (h 23) 60 z.2.2.2]) eF).symm (congrArg (fun (z : Int32 × S7 × Int32 × (Nat → Bool)) => z.1) eF).symm dX5_loan_8
def F_X5_arrears (ka : Int32) (kb : Int32) (kc : Int32) (mo : (Nat → Int32)) (ki : (Nat → Int32)) (am : (Nat → Int32)) (sk : (Nat → Bool)) (dn : (Nat → Bool)) (np : Nat) (n : Nat) : Int32 × S7 × Int32 × (Nat → Bool) :=
  (((F_X5_look ka kb kc mo ki am sk dn np n).1).2.2.2.1, ((F_X5_look ka kb kc mo ki am sk dn np n).1), (F_X5_look ka kb kc mo ki am sk dn np n).2.1, (F_X5_look ka kb kc mo ki am sk dn np n).2.2)
set_option maxRecDepth 100000 in
theorem k_X5_arrears_f64 : Cond.fieldLink RX5 64 "FlexiblePolicyModel" "arrears" "I" ∈ wsX5_arrears := by decide +kernel
set_option maxRecDepth 100000 in
theorem k_X5_arrears_in5 : ∀ w ∈ u_ws RX5 TX5 18, w ∈ wsX5_arrears := by decide +kernel
theorem nd_X5_arrears : yX5_arrears.cls = RX5 ∧ yX5_arrears.cls ≠ "java/lang/invoke/MethodHandle" ∧ yX5_arrears.cls ≠ "java/lang/invoke/VarHandle" ∧ (parseMethodDescriptor yX5_arrears.desc).map (fun d => d.parameters.length) = some 0 := by decide +kernel
abbrev rm_X5_arrears : Room := { frames := 7, cells := 0, slots := 0, locals := 156 }
set_option maxHeartbeats 4000000 in
set_option maxRecDepth 100000 in
theorem c_X5_arrears (l : Launch) (G : GG) (h : Nat → Nat) (ka : Int32) (kb : Int32) (kc : Int32) (v : S7) (t : Int32) (mo : (Nat → Int32)) (ki : (Nat → Int32)) (am : (Nat → Int32)) (sk : (Nat → Bool)) (dn : (Nat → Bool)) (np : Nat) (n : Nat) (hn : n ≤ 60) (hp : np ≤ 120) : CI l G yX5_arrears wsX5_arrears rm_X5_arrears [.ref (h 18)] [cM h (ka, kb, kc, (nI np), (nI n)) v t, aI G (h 19) 60 mo, aI G (h 20) 60 ki, aI G (h 21) 60 am, aZ G (h 22) 60 sk, aZ G (h 23) 60 dn] ((F_X5_arrears ka kb kc mo ki am sk dn np n).1) [cM h (ka, kb, kc, (nI np), (nI n)) ((F_X5_arrears ka kb kc mo ki am sk dn np n).2.1) ((F_X5_arrears ka kb kc mo ki am sk dn np n).2.2.1), aI G (h 19) 60 mo, aI G (h 20) 60 ki, aI G (h 21) 60 am, aZ G (h 22) 60 sk, aZ G (h 23) 60 ((F_X5_arrears ka kb kc mo ki am sk dn np n).2.2.2)] := by
  refine CI_of (own := RX5) (by decide +kernel) rfl rfl (Nat.le_of_ble_eq_true rfl) ?_
  intro pP eE sS mM args below meth cC A S hK hr hlk hmn hW ls hl
  have hx := S.1
  have hb := S.2.1
  have hl : lv_has ls 1 [(0, .ref (h 18))] := hl
  have hW : Wd G A sS.heap [cM h (ka, kb, kc, (nI np), (nI n)) v t, aI G (h 19) 60 mo, aI G (h 20) 60 ki, aI G (h 21) 60 am, aZ G (h 22) 60 sk, aZ G (h 23) 60 dn] sS.heap [] := hW
  refine lv_aload_n hx hb dX5_arrears_0 rfl (lv_at hl 0 rfl) ?_
  refine k_callVv (C := RX5) (As := []) (rest := []) (wr := []) (c_X5_look l G h ka kb kc v t mo ki am sk dn np n (by omega) (by omega)) S hK hW gX5_arrears_X5_look rfl ⟨rfl, rfl⟩ nd_X5_look ⟨rfl, rfl⟩ (qb := 0) (ci := 5) rfl rfl [0, 1, 2, 3, 4, 5] [] rfl rfl rfl rfl (by decide) rfl hl.1 rfl dX5_arrears_1 ⟨Nat.zero_le _, Nat.zero_le _⟩ (fun H locs hW => ?_)
  have hW : Wd G A sS.heap [cM h (ka, kb, kc, (nI np), (nI n)) ((F_X5_look ka kb kc mo ki am sk dn np n).1) ((F_X5_look ka kb kc mo ki am sk dn np n).2.1), aI G (h 19) 60 mo, aI G (h 20) 60 ki, aI G (h 21) 60 am, aZ G (h 22) 60 sk, aZ G (h 23) 60 ((F_X5_look ka kb kc mo ki am sk dn np n).2.2)] H locs := hW
  refine lv_aload_n hx hb dX5_arrears_4 rfl (lv_at hl 0 rfl) ?_
  refine k_get (C := RX5) (T := TX5) (N := 18) (ci := 5) (v := .int (((F_X5_look ka kb kc mo ki am sk dn np n).1).2.2.2.1)) S hK hW k_X5_arrears_in5 0 13 rfl rfl (by decide) k_X5_arrears_f64 rfl dX5_arrears_5 ?_
  have eF : (F_X5_arrears ka kb kc mo ki am sk dn np n) = (((F_X5_look ka kb kc mo ki am sk dn np n).1).2.2.2.1, ((F_X5_look ka kb kc mo ki am sk dn np n).1), (F_X5_look ka kb kc mo ki am sk dn np n).2.1, (F_X5_look ka kb kc mo ki am sk dn np n).2.2) := by
    rfl
  exact k_iret (wf := [cM h (ka, kb, kc, (nI np), (nI n)) ((F_X5_look ka kb kc mo ki am sk dn np n).1) ((F_X5_look ka kb kc mo ki am sk dn np n).2.1), aI G (h 19) 60 mo, aI G (h 20) 60 ki, aI G (h 21) 60 am, aZ G (h 22) 60 sk, aZ G (h 23) 60 ((F_X5_look ka kb kc mo ki am sk dn np n).2.2)]) S hr hlk hK hW [0, 1, 2, 3, 4, 5] rfl rfl (congrArg (fun (z : Int32 × S7 × Int32 × (Nat → Bool)) => [cM h (ka, kb, kc, (nI np), (nI n)) z.2.1 z.2.2.1, aI G (h 19) 60 mo, aI G (h 20) 60 ki, aI G (h 21) 60 am, aZ G (h 22) 60 sk, aZ G (h 23) 60 z.2.2.2]) eF).symm (congrArg (fun (z : Int32 × S7 × Int32 × (Nat → Bool)) => z.1) eF).symm dX5_arrears_8
def F_X5_paid (ka : Int32) (kb : Int32) (kc : Int32) (mo : (Nat → Int32)) (ki : (Nat → Int32)) (am : (Nat → Int32)) (sk : (Nat → Bool)) (dn : (Nat → Bool)) (np : Nat) (n : Nat) : Int32 × S7 × Int32 × (Nat → Bool) :=
  (((F_X5_look ka kb kc mo ki am sk dn np n).1).2.2.2.2.2.2, ((F_X5_look ka kb kc mo ki am sk dn np n).1), (F_X5_look ka kb kc mo ki am sk dn np n).2.1, (F_X5_look ka kb kc mo ki am sk dn np n).2.2)
set_option maxRecDepth 100000 in
theorem k_X5_paid_f73 : Cond.fieldLink RX5 73 "FlexiblePolicyModel" "paidSum" "I" ∈ wsX5_paid := by decide +kernel
set_option maxRecDepth 100000 in
theorem k_X5_paid_in5 : ∀ w ∈ u_ws RX5 TX5 18, w ∈ wsX5_paid := by decide +kernel
theorem nd_X5_paid : yX5_paid.cls = RX5 ∧ yX5_paid.cls ≠ "java/lang/invoke/MethodHandle" ∧ yX5_paid.cls ≠ "java/lang/invoke/VarHandle" ∧ (parseMethodDescriptor yX5_paid.desc).map (fun d => d.parameters.length) = some 0 := by decide +kernel
abbrev rm_X5_paid : Room := { frames := 7, cells := 0, slots := 0, locals := 156 }
set_option maxHeartbeats 4000000 in
set_option maxRecDepth 100000 in
theorem c_X5_paid (l : Launch) (G : GG) (h : Nat → Nat) (ka : Int32) (kb : Int32) (kc : Int32) (v : S7) (t : Int32) (mo : (Nat → Int32)) (ki : (Nat → Int32)) (am : (Nat → Int32)) (sk : (Nat → Bool)) (dn : (Nat → Bool)) (np : Nat) (n : Nat) (hn : n ≤ 60) (hp : np ≤ 120) : CI l G yX5_paid wsX5_paid rm_X5_paid [.ref (h 18)] [cM h (ka, kb, kc, (nI np), (nI n)) v t, aI G (h 19) 60 mo, aI G (h 20) 60 ki, aI G (h 21) 60 am, aZ G (h 22) 60 sk, aZ G (h 23) 60 dn] ((F_X5_paid ka kb kc mo ki am sk dn np n).1) [cM h (ka, kb, kc, (nI np), (nI n)) ((F_X5_paid ka kb kc mo ki am sk dn np n).2.1) ((F_X5_paid ka kb kc mo ki am sk dn np n).2.2.1), aI G (h 19) 60 mo, aI G (h 20) 60 ki, aI G (h 21) 60 am, aZ G (h 22) 60 sk, aZ G (h 23) 60 ((F_X5_paid ka kb kc mo ki am sk dn np n).2.2.2)] := by
  refine CI_of (own := RX5) (by decide +kernel) rfl rfl (Nat.le_of_ble_eq_true rfl) ?_
  intro pP eE sS mM args below meth cC A S hK hr hlk hmn hW ls hl
  have hx := S.1
  have hb := S.2.1
  have hl : lv_has ls 1 [(0, .ref (h 18))] := hl
  have hW : Wd G A sS.heap [cM h (ka, kb, kc, (nI np), (nI n)) v t, aI G (h 19) 60 mo, aI G (h 20) 60 ki, aI G (h 21) 60 am, aZ G (h 22) 60 sk, aZ G (h 23) 60 dn] sS.heap [] := hW
  refine lv_aload_n hx hb dX5_paid_0 rfl (lv_at hl 0 rfl) ?_
  refine k_callVv (C := RX5) (As := []) (rest := []) (wr := []) (c_X5_look l G h ka kb kc v t mo ki am sk dn np n (by omega) (by omega)) S hK hW gX5_paid_X5_look rfl ⟨rfl, rfl⟩ nd_X5_look ⟨rfl, rfl⟩ (qb := 0) (ci := 5) rfl rfl [0, 1, 2, 3, 4, 5] [] rfl rfl rfl rfl (by decide) rfl hl.1 rfl dX5_paid_1 ⟨Nat.zero_le _, Nat.zero_le _⟩ (fun H locs hW => ?_)
  have hW : Wd G A sS.heap [cM h (ka, kb, kc, (nI np), (nI n)) ((F_X5_look ka kb kc mo ki am sk dn np n).1) ((F_X5_look ka kb kc mo ki am sk dn np n).2.1), aI G (h 19) 60 mo, aI G (h 20) 60 ki, aI G (h 21) 60 am, aZ G (h 22) 60 sk, aZ G (h 23) 60 ((F_X5_look ka kb kc mo ki am sk dn np n).2.2)] H locs := hW
  refine lv_aload_n hx hb dX5_paid_4 rfl (lv_at hl 0 rfl) ?_
  refine k_get (C := RX5) (T := TX5) (N := 18) (ci := 5) (v := .int (((F_X5_look ka kb kc mo ki am sk dn np n).1).2.2.2.2.2.2)) S hK hW k_X5_paid_in5 0 16 rfl rfl (by decide) k_X5_paid_f73 rfl dX5_paid_5 ?_
  have eF : (F_X5_paid ka kb kc mo ki am sk dn np n) = (((F_X5_look ka kb kc mo ki am sk dn np n).1).2.2.2.2.2.2, ((F_X5_look ka kb kc mo ki am sk dn np n).1), (F_X5_look ka kb kc mo ki am sk dn np n).2.1, (F_X5_look ka kb kc mo ki am sk dn np n).2.2) := by
    rfl
  exact k_iret (wf := [cM h (ka, kb, kc, (nI np), (nI n)) ((F_X5_look ka kb kc mo ki am sk dn np n).1) ((F_X5_look ka kb kc mo ki am sk dn np n).2.1), aI G (h 19) 60 mo, aI G (h 20) 60 ki, aI G (h 21) 60 am, aZ G (h 22) 60 sk, aZ G (h 23) 60 ((F_X5_look ka kb kc mo ki am sk dn np n).2.2)]) S hr hlk hK hW [0, 1, 2, 3, 4, 5] rfl rfl (congrArg (fun (z : Int32 × S7 × Int32 × (Nat → Bool)) => [cM h (ka, kb, kc, (nI np), (nI n)) z.2.1 z.2.2.1, aI G (h 19) 60 mo, aI G (h 20) 60 ki, aI G (h 21) 60 am, aZ G (h 22) 60 sk, aZ G (h 23) 60 z.2.2.2]) eF).symm (congrArg (fun (z : Int32 × S7 × Int32 × (Nat → Bool)) => z.1) eF).symm dX5_paid_8
def F_X5_deathSum (ka : Int32) (kb : Int32) (kc : Int32) (mo : (Nat → Int32)) (ki : (Nat → Int32)) (am : (Nat → Int32)) (sk : (Nat → Bool)) (dn : (Nat → Bool)) (np : Nat) (n : Nat) : Int32 × S7 × Int32 × (Nat → Bool) :=
  if ((F_X5_look ka kb kc mo ki am sk dn np n).1).1 ≤ 1 then ((F_X5_deathSumIn ka kb kc ((F_X5_look ka kb kc mo ki am sk dn np n).1) (nI np)).toInt32, ((F_X5_look ka kb kc mo ki am sk dn np n).1), (F_X5_look ka kb kc mo ki am sk dn np n).2.1, (F_X5_look ka kb kc mo ki am sk dn np n).2.2)
  else (0, ((F_X5_look ka kb kc mo ki am sk dn np n).1), (F_X5_look ka kb kc mo ki am sk dn np n).2.1, (F_X5_look ka kb kc mo ki am sk dn np n).2.2)
set_option maxRecDepth 100000 in
theorem k_X5_deathSum_f61 : Cond.fieldLink RX5 61 "FlexiblePolicyModel" "state" "I" ∈ wsX5_deathSum := by decide +kernel
set_option maxRecDepth 100000 in
theorem k_X5_deathSum_in5 : ∀ w ∈ u_ws RX5 TX5 18, w ∈ wsX5_deathSum := by decide +kernel
set_option maxRecDepth 100000 in
theorem k_X5_deathSum_f122 : Cond.fieldLink RX5 122 "FlexiblePolicyModel" "now" "I" ∈ wsX5_deathSum := by decide +kernel
theorem nd_X5_deathSum : yX5_deathSum.cls = RX5 ∧ yX5_deathSum.cls ≠ "java/lang/invoke/MethodHandle" ∧ yX5_deathSum.cls ≠ "java/lang/invoke/VarHandle" ∧ (parseMethodDescriptor yX5_deathSum.desc).map (fun d => d.parameters.length) = some 0 := by decide +kernel
abbrev rm_X5_deathSum : Room := { frames := 7, cells := 0, slots := 0, locals := 156 }
set_option maxHeartbeats 4000000 in
set_option maxRecDepth 100000 in
theorem c_X5_deathSum (l : Launch) (G : GG) (h : Nat → Nat) (ka : Int32) (kb : Int32) (kc : Int32) (v : S7) (t : Int32) (mo : (Nat → Int32)) (ki : (Nat → Int32)) (am : (Nat → Int32)) (sk : (Nat → Bool)) (dn : (Nat → Bool)) (np : Nat) (n : Nat) (hn : n ≤ 60) (hp : np ≤ 120) : CI l G yX5_deathSum wsX5_deathSum rm_X5_deathSum [.ref (h 18)] [cM h (ka, kb, kc, (nI np), (nI n)) v t, aI G (h 19) 60 mo, aI G (h 20) 60 ki, aI G (h 21) 60 am, aZ G (h 22) 60 sk, aZ G (h 23) 60 dn] ((F_X5_deathSum ka kb kc mo ki am sk dn np n).1) [cM h (ka, kb, kc, (nI np), (nI n)) ((F_X5_deathSum ka kb kc mo ki am sk dn np n).2.1) ((F_X5_deathSum ka kb kc mo ki am sk dn np n).2.2.1), aI G (h 19) 60 mo, aI G (h 20) 60 ki, aI G (h 21) 60 am, aZ G (h 22) 60 sk, aZ G (h 23) 60 ((F_X5_deathSum ka kb kc mo ki am sk dn np n).2.2.2)] := by
  refine CI_of (own := RX5) (by decide +kernel) rfl rfl (Nat.le_of_ble_eq_true rfl) ?_
  intro pP eE sS mM args below meth cC A S hK hr hlk hmn hW ls hl
  have hx := S.1
  have hb := S.2.1
  have hl : lv_has ls 1 [(0, .ref (h 18))] := hl
  have hW : Wd G A sS.heap [cM h (ka, kb, kc, (nI np), (nI n)) v t, aI G (h 19) 60 mo, aI G (h 20) 60 ki, aI G (h 21) 60 am, aZ G (h 22) 60 sk, aZ G (h 23) 60 dn] sS.heap [] := hW
  refine lv_aload_n hx hb dX5_deathSum_0 rfl (lv_at hl 0 rfl) ?_
  refine k_callVv (C := RX5) (As := []) (rest := []) (wr := []) (c_X5_look l G h ka kb kc v t mo ki am sk dn np n (by omega) (by omega)) S hK hW gX5_deathSum_X5_look rfl ⟨rfl, rfl⟩ nd_X5_look ⟨rfl, rfl⟩ (qb := 0) (ci := 5) rfl rfl [0, 1, 2, 3, 4, 5] [] rfl rfl rfl rfl (by decide) rfl hl.1 rfl dX5_deathSum_1 ⟨Nat.zero_le _, Nat.zero_le _⟩ (fun H locs hW => ?_)
  have hW : Wd G A sS.heap [cM h (ka, kb, kc, (nI np), (nI n)) ((F_X5_look ka kb kc mo ki am sk dn np n).1) ((F_X5_look ka kb kc mo ki am sk dn np n).2.1), aI G (h 19) 60 mo, aI G (h 20) 60 ki, aI G (h 21) 60 am, aZ G (h 22) 60 sk, aZ G (h 23) 60 ((F_X5_look ka kb kc mo ki am sk dn np n).2.2)] H locs := hW
  refine lv_aload_n hx hb dX5_deathSum_4 rfl (lv_at hl 0 rfl) ?_
  refine k_get (C := RX5) (T := TX5) (N := 18) (ci := 5) (v := .int (((F_X5_look ka kb kc mo ki am sk dn np n).1).1)) S hK hW k_X5_deathSum_in5 0 10 rfl rfl (by decide) k_X5_deathSum_f61 rfl dX5_deathSum_5 ?_
  refine lv_iconst (v := 1) hx hb dX5_deathSum_8 (by decide) ?_
  refine lv_icmp_le (tgt := 16) hx hb dX5_deathSum_9 (by decide) (fun c_1 => ?_) (fun c_1 => ?_)
  ·
    refine lv_aload_n hx hb dX5_deathSum_16 rfl (lv_at hl 0 rfl) ?_
    refine lv_aload_n hx hb dX5_deathSum_17 rfl (lv_at hl 0 rfl) ?_
    refine k_get (C := RX5) (T := TX5) (N := 18) (ci := 5) (v := .int (nI np)) S hK hW k_X5_deathSum_in5 0 3 rfl rfl (by decide) k_X5_deathSum_f122 rfl dX5_deathSum_18 ?_
    refine k_callVl (C := RX5) (As := [.int (nI np)]) (rest := []) (wr := [aI G (h 19) 60 mo, aI G (h 20) 60 ki, aI G (h 21) 60 am, aZ G (h 22) 60 sk, aZ G (h 23) 60 ((F_X5_look ka kb kc mo ki am sk dn np n).2.2)]) (c_X5_deathSumIn l G h ka kb kc (nI np) (nI n) ((F_X5_look ka kb kc mo ki am sk dn np n).1) ((F_X5_look ka kb kc mo ki am sk dn np n).2.1) (nI np)) S hK hW gX5_deathSum_X5_deathSumIn rfl ⟨rfl, rfl⟩ nd_X5_deathSumIn ⟨rfl, rfl⟩ (qb := 0) (ci := 5) rfl rfl [0] [1, 2, 3, 4, 5] rfl rfl rfl rfl (by decide) rfl hl.1 rfl dX5_deathSum_21 ⟨Nat.zero_le _, Nat.zero_le _⟩ (fun H locs hW => ?_)
    have hW : Wd G A sS.heap [aI G (h 19) 60 mo, aI G (h 20) 60 ki, aI G (h 21) 60 am, aZ G (h 22) 60 sk, aZ G (h 23) 60 ((F_X5_look ka kb kc mo ki am sk dn np n).2.2), cM h (ka, kb, kc, (nI np), (nI n)) ((F_X5_look ka kb kc mo ki am sk dn np n).1) ((F_X5_look ka kb kc mo ki am sk dn np n).2.1)] H locs := hW
    refine lv_l2i hx hb dX5_deathSum_24 rfl ?_
    have eF : (F_X5_deathSum ka kb kc mo ki am sk dn np n) = ((F_X5_deathSumIn ka kb kc ((F_X5_look ka kb kc mo ki am sk dn np n).1) (nI np)).toInt32, ((F_X5_look ka kb kc mo ki am sk dn np n).1), (F_X5_look ka kb kc mo ki am sk dn np n).2.1, (F_X5_look ka kb kc mo ki am sk dn np n).2.2) := by
      unfold F_X5_deathSum
      rw [if_pos c_1]
    exact k_iret (wf := [cM h (ka, kb, kc, (nI np), (nI n)) ((F_X5_look ka kb kc mo ki am sk dn np n).1) ((F_X5_look ka kb kc mo ki am sk dn np n).2.1), aI G (h 19) 60 mo, aI G (h 20) 60 ki, aI G (h 21) 60 am, aZ G (h 22) 60 sk, aZ G (h 23) 60 ((F_X5_look ka kb kc mo ki am sk dn np n).2.2)]) S hr hlk hK hW [5, 0, 1, 2, 3, 4] rfl rfl (congrArg (fun (z : Int32 × S7 × Int32 × (Nat → Bool)) => [cM h (ka, kb, kc, (nI np), (nI n)) z.2.1 z.2.2.1, aI G (h 19) 60 mo, aI G (h 20) 60 ki, aI G (h 21) 60 am, aZ G (h 22) 60 sk, aZ G (h 23) 60 z.2.2.2]) eF).symm (congrArg (fun (z : Int32 × S7 × Int32 × (Nat → Bool)) => z.1) eF).symm dX5_deathSum_25
  ·
    refine lv_iconst (v := 0) hx hb dX5_deathSum_12 (by decide) ?_
    refine lv_goto (tgt := 25) hx hb dX5_deathSum_13 (by decide) ?_
    have eF : (F_X5_deathSum ka kb kc mo ki am sk dn np n) = (0, ((F_X5_look ka kb kc mo ki am sk dn np n).1), (F_X5_look ka kb kc mo ki am sk dn np n).2.1, (F_X5_look ka kb kc mo ki am sk dn np n).2.2) := by
      unfold F_X5_deathSum
      rw [if_neg c_1]
    exact k_iret (wf := [cM h (ka, kb, kc, (nI np), (nI n)) ((F_X5_look ka kb kc mo ki am sk dn np n).1) ((F_X5_look ka kb kc mo ki am sk dn np n).2.1), aI G (h 19) 60 mo, aI G (h 20) 60 ki, aI G (h 21) 60 am, aZ G (h 22) 60 sk, aZ G (h 23) 60 ((F_X5_look ka kb kc mo ki am sk dn np n).2.2)]) S hr hlk hK hW [0, 1, 2, 3, 4, 5] rfl rfl (congrArg (fun (z : Int32 × S7 × Int32 × (Nat → Bool)) => [cM h (ka, kb, kc, (nI np), (nI n)) z.2.1 z.2.2.1, aI G (h 19) 60 mo, aI G (h 20) 60 ki, aI G (h 21) 60 am, aZ G (h 22) 60 sk, aZ G (h 23) 60 z.2.2.2]) eF).symm (congrArg (fun (z : Int32 × S7 × Int32 × (Nat → Bool)) => z.1) eF).symm dX5_deathSum_25
def F_X5_charge (ka : Int32) (kb : Int32) (kc : Int32) (mo : (Nat → Int32)) (ki : (Nat → Int32)) (am : (Nat → Int32)) (sk : (Nat → Bool)) (dn : (Nat → Bool)) (np : Nat) (n : Nat) : Int32 × S7 × Int32 × (Nat → Bool) :=
  if ((F_X5_look ka kb kc mo ki am sk dn np n).1).1 ≤ 1 then ((F_X5_chargeIn ka kb kc ((F_X5_look ka kb kc mo ki am sk dn np n).1) (nI np)), ((F_X5_look ka kb kc mo ki am sk dn np n).1), (F_X5_look ka kb kc mo ki am sk dn np n).2.1, (F_X5_look ka kb kc mo ki am sk dn np n).2.2)
  else (0, ((F_X5_look ka kb kc mo ki am sk dn np n).1), (F_X5_look ka kb kc mo ki am sk dn np n).2.1, (F_X5_look ka kb kc mo ki am sk dn np n).2.2)
set_option maxRecDepth 100000 in
theorem k_X5_charge_f61 : Cond.fieldLink RX5 61 "FlexiblePolicyModel" "state" "I" ∈ wsX5_charge := by decide +kernel
set_option maxRecDepth 100000 in
theorem k_X5_charge_in5 : ∀ w ∈ u_ws RX5 TX5 18, w ∈ wsX5_charge := by decide +kernel
set_option maxRecDepth 100000 in
theorem k_X5_charge_f122 : Cond.fieldLink RX5 122 "FlexiblePolicyModel" "now" "I" ∈ wsX5_charge := by decide +kernel
theorem nd_X5_charge : yX5_charge.cls = RX5 ∧ yX5_charge.cls ≠ "java/lang/invoke/MethodHandle" ∧ yX5_charge.cls ≠ "java/lang/invoke/VarHandle" ∧ (parseMethodDescriptor yX5_charge.desc).map (fun d => d.parameters.length) = some 0 := by decide +kernel
abbrev rm_X5_charge : Room := { frames := 7, cells := 0, slots := 0, locals := 156 }
set_option maxHeartbeats 4000000 in
set_option maxRecDepth 100000 in
theorem c_X5_charge (l : Launch) (G : GG) (h : Nat → Nat) (ka : Int32) (kb : Int32) (kc : Int32) (v : S7) (t : Int32) (mo : (Nat → Int32)) (ki : (Nat → Int32)) (am : (Nat → Int32)) (sk : (Nat → Bool)) (dn : (Nat → Bool)) (np : Nat) (n : Nat) (hn : n ≤ 60) (hp : np ≤ 120) : CI l G yX5_charge wsX5_charge rm_X5_charge [.ref (h 18)] [cM h (ka, kb, kc, (nI np), (nI n)) v t, aI G (h 19) 60 mo, aI G (h 20) 60 ki, aI G (h 21) 60 am, aZ G (h 22) 60 sk, aZ G (h 23) 60 dn] ((F_X5_charge ka kb kc mo ki am sk dn np n).1) [cM h (ka, kb, kc, (nI np), (nI n)) ((F_X5_charge ka kb kc mo ki am sk dn np n).2.1) ((F_X5_charge ka kb kc mo ki am sk dn np n).2.2.1), aI G (h 19) 60 mo, aI G (h 20) 60 ki, aI G (h 21) 60 am, aZ G (h 22) 60 sk, aZ G (h 23) 60 ((F_X5_charge ka kb kc mo ki am sk dn np n).2.2.2)] := by
  refine CI_of (own := RX5) (by decide +kernel) rfl rfl (Nat.le_of_ble_eq_true rfl) ?_
  intro pP eE sS mM args below meth cC A S hK hr hlk hmn hW ls hl
  have hx := S.1
  have hb := S.2.1
  have hl : lv_has ls 1 [(0, .ref (h 18))] := hl
  have hW : Wd G A sS.heap [cM h (ka, kb, kc, (nI np), (nI n)) v t, aI G (h 19) 60 mo, aI G (h 20) 60 ki, aI G (h 21) 60 am, aZ G (h 22) 60 sk, aZ G (h 23) 60 dn] sS.heap [] := hW
  refine lv_aload_n hx hb dX5_charge_0 rfl (lv_at hl 0 rfl) ?_
  refine k_callVv (C := RX5) (As := []) (rest := []) (wr := []) (c_X5_look l G h ka kb kc v t mo ki am sk dn np n (by omega) (by omega)) S hK hW gX5_charge_X5_look rfl ⟨rfl, rfl⟩ nd_X5_look ⟨rfl, rfl⟩ (qb := 0) (ci := 5) rfl rfl [0, 1, 2, 3, 4, 5] [] rfl rfl rfl rfl (by decide) rfl hl.1 rfl dX5_charge_1 ⟨Nat.zero_le _, Nat.zero_le _⟩ (fun H locs hW => ?_)
  have hW : Wd G A sS.heap [cM h (ka, kb, kc, (nI np), (nI n)) ((F_X5_look ka kb kc mo ki am sk dn np n).1) ((F_X5_look ka kb kc mo ki am sk dn np n).2.1), aI G (h 19) 60 mo, aI G (h 20) 60 ki, aI G (h 21) 60 am, aZ G (h 22) 60 sk, aZ G (h 23) 60 ((F_X5_look ka kb kc mo ki am sk dn np n).2.2)] H locs := hW
  refine lv_aload_n hx hb dX5_charge_4 rfl (lv_at hl 0 rfl) ?_
  refine k_get (C := RX5) (T := TX5) (N := 18) (ci := 5) (v := .int (((F_X5_look ka kb kc mo ki am sk dn np n).1).1)) S hK hW k_X5_charge_in5 0 10 rfl rfl (by decide) k_X5_charge_f61 rfl dX5_charge_5 ?_
  refine lv_iconst (v := 1) hx hb dX5_charge_8 (by decide) ?_
  refine lv_icmp_le (tgt := 16) hx hb dX5_charge_9 (by decide) (fun c_1 => ?_) (fun c_1 => ?_)
  ·
    refine lv_aload_n hx hb dX5_charge_16 rfl (lv_at hl 0 rfl) ?_
    refine lv_aload_n hx hb dX5_charge_17 rfl (lv_at hl 0 rfl) ?_
    refine k_get (C := RX5) (T := TX5) (N := 18) (ci := 5) (v := .int (nI np)) S hK hW k_X5_charge_in5 0 3 rfl rfl (by decide) k_X5_charge_f122 rfl dX5_charge_18 ?_
    refine k_callVi (C := RX5) (As := [.int (nI np)]) (rest := []) (wr := [aI G (h 19) 60 mo, aI G (h 20) 60 ki, aI G (h 21) 60 am, aZ G (h 22) 60 sk, aZ G (h 23) 60 ((F_X5_look ka kb kc mo ki am sk dn np n).2.2)]) (c_X5_chargeIn l G h ka kb kc (nI np) (nI n) ((F_X5_look ka kb kc mo ki am sk dn np n).1) ((F_X5_look ka kb kc mo ki am sk dn np n).2.1) (nI np)) S hK hW gX5_charge_X5_chargeIn rfl ⟨rfl, rfl⟩ nd_X5_chargeIn ⟨rfl, rfl⟩ (qb := 0) (ci := 5) rfl rfl [0] [1, 2, 3, 4, 5] rfl rfl rfl rfl (by decide) rfl hl.1 rfl dX5_charge_21 ⟨Nat.zero_le _, Nat.zero_le _⟩ (fun H locs hW => ?_)
    have hW : Wd G A sS.heap [aI G (h 19) 60 mo, aI G (h 20) 60 ki, aI G (h 21) 60 am, aZ G (h 22) 60 sk, aZ G (h 23) 60 ((F_X5_look ka kb kc mo ki am sk dn np n).2.2), cM h (ka, kb, kc, (nI np), (nI n)) ((F_X5_look ka kb kc mo ki am sk dn np n).1) ((F_X5_look ka kb kc mo ki am sk dn np n).2.1)] H locs := hW
    have eF : (F_X5_charge ka kb kc mo ki am sk dn np n) = ((F_X5_chargeIn ka kb kc ((F_X5_look ka kb kc mo ki am sk dn np n).1) (nI np)), ((F_X5_look ka kb kc mo ki am sk dn np n).1), (F_X5_look ka kb kc mo ki am sk dn np n).2.1, (F_X5_look ka kb kc mo ki am sk dn np n).2.2) := by
      unfold F_X5_charge
      rw [if_pos c_1]
    exact k_iret (wf := [cM h (ka, kb, kc, (nI np), (nI n)) ((F_X5_look ka kb kc mo ki am sk dn np n).1) ((F_X5_look ka kb kc mo ki am sk dn np n).2.1), aI G (h 19) 60 mo, aI G (h 20) 60 ki, aI G (h 21) 60 am, aZ G (h 22) 60 sk, aZ G (h 23) 60 ((F_X5_look ka kb kc mo ki am sk dn np n).2.2)]) S hr hlk hK hW [5, 0, 1, 2, 3, 4] rfl rfl (congrArg (fun (z : Int32 × S7 × Int32 × (Nat → Bool)) => [cM h (ka, kb, kc, (nI np), (nI n)) z.2.1 z.2.2.1, aI G (h 19) 60 mo, aI G (h 20) 60 ki, aI G (h 21) 60 am, aZ G (h 22) 60 sk, aZ G (h 23) 60 z.2.2.2]) eF).symm (congrArg (fun (z : Int32 × S7 × Int32 × (Nat → Bool)) => z.1) eF).symm dX5_charge_24
  ·
    refine lv_iconst (v := 0) hx hb dX5_charge_12 (by decide) ?_
    refine lv_goto (tgt := 24) hx hb dX5_charge_13 (by decide) ?_
    have eF : (F_X5_charge ka kb kc mo ki am sk dn np n) = (0, ((F_X5_look ka kb kc mo ki am sk dn np n).1), (F_X5_look ka kb kc mo ki am sk dn np n).2.1, (F_X5_look ka kb kc mo ki am sk dn np n).2.2) := by
      unfold F_X5_charge
      rw [if_neg c_1]
    exact k_iret (wf := [cM h (ka, kb, kc, (nI np), (nI n)) ((F_X5_look ka kb kc mo ki am sk dn np n).1) ((F_X5_look ka kb kc mo ki am sk dn np n).2.1), aI G (h 19) 60 mo, aI G (h 20) 60 ki, aI G (h 21) 60 am, aZ G (h 22) 60 sk, aZ G (h 23) 60 ((F_X5_look ka kb kc mo ki am sk dn np n).2.2)]) S hr hlk hK hW [0, 1, 2, 3, 4, 5] rfl rfl (congrArg (fun (z : Int32 × S7 × Int32 × (Nat → Bool)) => [cM h (ka, kb, kc, (nI np), (nI n)) z.2.1 z.2.2.1, aI G (h 19) 60 mo, aI G (h 20) 60 ki, aI G (h 21) 60 am, aZ G (h 22) 60 sk, aZ G (h 23) 60 z.2.2.2]) eF).symm (congrArg (fun (z : Int32 × S7 × Int32 × (Nat → Bool)) => z.1) eF).symm dX5_charge_24
def F_X5_grace (ka : Int32) (kb : Int32) (kc : Int32) (mo : (Nat → Int32)) (ki : (Nat → Int32)) (am : (Nat → Int32)) (sk : (Nat → Bool)) (dn : (Nat → Bool)) (np : Nat) (n : Nat) : Int32 × S7 × Int32 × (Nat → Bool) :=
  if ((F_X5_look ka kb kc mo ki am sk dn np n).1).1 = 1 then (((F_X5_look ka kb kc mo ki am sk dn np n).1).2.2.2.2.1, ((F_X5_look ka kb kc mo ki am sk dn np n).1), (F_X5_look ka kb kc mo ki am sk dn np n).2.1, (F_X5_look ka kb kc mo ki am sk dn np n).2.2)
  else (0, ((F_X5_look ka kb kc mo ki am sk dn np n).1), (F_X5_look ka kb kc mo ki am sk dn np n).2.1, (F_X5_look ka kb kc mo ki am sk dn np n).2.2)
set_option maxRecDepth 100000 in
theorem k_X5_grace_f61 : Cond.fieldLink RX5 61 "FlexiblePolicyModel" "state" "I" ∈ wsX5_grace := by decide +kernel
set_option maxRecDepth 100000 in
theorem k_X5_grace_in5 : ∀ w ∈ u_ws RX5 TX5 18, w ∈ wsX5_grace := by decide +kernel
set_option maxRecDepth 100000 in
theorem k_X5_grace_f67 : Cond.fieldLink RX5 67 "FlexiblePolicyModel" "graceMonths" "I" ∈ wsX5_grace := by decide +kernel
theorem nd_X5_grace : yX5_grace.cls = RX5 ∧ yX5_grace.cls ≠ "java/lang/invoke/MethodHandle" ∧ yX5_grace.cls ≠ "java/lang/invoke/VarHandle" ∧ (parseMethodDescriptor yX5_grace.desc).map (fun d => d.parameters.length) = some 0 := by decide +kernel
abbrev rm_X5_grace : Room := { frames := 7, cells := 0, slots := 0, locals := 156 }
set_option maxHeartbeats 4000000 in
set_option maxRecDepth 100000 in
theorem c_X5_grace (l : Launch) (G : GG) (h : Nat → Nat) (ka : Int32) (kb : Int32) (kc : Int32) (v : S7) (t : Int32) (mo : (Nat → Int32)) (ki : (Nat → Int32)) (am : (Nat → Int32)) (sk : (Nat → Bool)) (dn : (Nat → Bool)) (np : Nat) (n : Nat) (hn : n ≤ 60) (hp : np ≤ 120) : CI l G yX5_grace wsX5_grace rm_X5_grace [.ref (h 18)] [cM h (ka, kb, kc, (nI np), (nI n)) v t, aI G (h 19) 60 mo, aI G (h 20) 60 ki, aI G (h 21) 60 am, aZ G (h 22) 60 sk, aZ G (h 23) 60 dn] ((F_X5_grace ka kb kc mo ki am sk dn np n).1) [cM h (ka, kb, kc, (nI np), (nI n)) ((F_X5_grace ka kb kc mo ki am sk dn np n).2.1) ((F_X5_grace ka kb kc mo ki am sk dn np n).2.2.1), aI G (h 19) 60 mo, aI G (h 20) 60 ki, aI G (h 21) 60 am, aZ G (h 22) 60 sk, aZ G (h 23) 60 ((F_X5_grace ka kb kc mo ki am sk dn np n).2.2.2)] := by
  refine CI_of (own := RX5) (by decide +kernel) rfl rfl (Nat.le_of_ble_eq_true rfl) ?_
  intro pP eE sS mM args below meth cC A S hK hr hlk hmn hW ls hl
  have hx := S.1
  have hb := S.2.1
  have hl : lv_has ls 1 [(0, .ref (h 18))] := hl
  have hW : Wd G A sS.heap [cM h (ka, kb, kc, (nI np), (nI n)) v t, aI G (h 19) 60 mo, aI G (h 20) 60 ki, aI G (h 21) 60 am, aZ G (h 22) 60 sk, aZ G (h 23) 60 dn] sS.heap [] := hW
  refine lv_aload_n hx hb dX5_grace_0 rfl (lv_at hl 0 rfl) ?_
  refine k_callVv (C := RX5) (As := []) (rest := []) (wr := []) (c_X5_look l G h ka kb kc v t mo ki am sk dn np n (by omega) (by omega)) S hK hW gX5_grace_X5_look rfl ⟨rfl, rfl⟩ nd_X5_look ⟨rfl, rfl⟩ (qb := 0) (ci := 5) rfl rfl [0, 1, 2, 3, 4, 5] [] rfl rfl rfl rfl (by decide) rfl hl.1 rfl dX5_grace_1 ⟨Nat.zero_le _, Nat.zero_le _⟩ (fun H locs hW => ?_)
  have hW : Wd G A sS.heap [cM h (ka, kb, kc, (nI np), (nI n)) ((F_X5_look ka kb kc mo ki am sk dn np n).1) ((F_X5_look ka kb kc mo ki am sk dn np n).2.1), aI G (h 19) 60 mo, aI G (h 20) 60 ki, aI G (h 21) 60 am, aZ G (h 22) 60 sk, aZ G (h 23) 60 ((F_X5_look ka kb kc mo ki am sk dn np n).2.2)] H locs := hW
  refine lv_aload_n hx hb dX5_grace_4 rfl (lv_at hl 0 rfl) ?_
  refine k_get (C := RX5) (T := TX5) (N := 18) (ci := 5) (v := .int (((F_X5_look ka kb kc mo ki am sk dn np n).1).1)) S hK hW k_X5_grace_in5 0 10 rfl rfl (by decide) k_X5_grace_f61 rfl dX5_grace_5 ?_
  refine lv_iconst (v := 1) hx hb dX5_grace_8 (by decide) ?_
  refine lv_icmp_ne (tgt := 19) hx hb dX5_grace_9 (by decide) (fun c_1 => ?_) (fun c_1 => ?_)
  ·
    refine lv_iconst (v := 0) hx hb dX5_grace_19 (by decide) ?_
    have eF : (F_X5_grace ka kb kc mo ki am sk dn np n) = (0, ((F_X5_look ka kb kc mo ki am sk dn np n).1), (F_X5_look ka kb kc mo ki am sk dn np n).2.1, (F_X5_look ka kb kc mo ki am sk dn np n).2.2) := by
      unfold F_X5_grace
      rw [if_neg c_1]
    exact k_iret (wf := [cM h (ka, kb, kc, (nI np), (nI n)) ((F_X5_look ka kb kc mo ki am sk dn np n).1) ((F_X5_look ka kb kc mo ki am sk dn np n).2.1), aI G (h 19) 60 mo, aI G (h 20) 60 ki, aI G (h 21) 60 am, aZ G (h 22) 60 sk, aZ G (h 23) 60 ((F_X5_look ka kb kc mo ki am sk dn np n).2.2)]) S hr hlk hK hW [0, 1, 2, 3, 4, 5] rfl rfl (congrArg (fun (z : Int32 × S7 × Int32 × (Nat → Bool)) => [cM h (ka, kb, kc, (nI np), (nI n)) z.2.1 z.2.2.1, aI G (h 19) 60 mo, aI G (h 20) 60 ki, aI G (h 21) 60 am, aZ G (h 22) 60 sk, aZ G (h 23) 60 z.2.2.2]) eF).symm (congrArg (fun (z : Int32 × S7 × Int32 × (Nat → Bool)) => z.1) eF).symm dX5_grace_20
  ·
    refine lv_aload_n hx hb dX5_grace_12 rfl (lv_at hl 0 rfl) ?_
    refine k_get (C := RX5) (T := TX5) (N := 18) (ci := 5) (v := .int (((F_X5_look ka kb kc mo ki am sk dn np n).1).2.2.2.2.1)) S hK hW k_X5_grace_in5 0 14 rfl rfl (by decide) k_X5_grace_f67 rfl dX5_grace_13 ?_
    refine lv_goto (tgt := 20) hx hb dX5_grace_16 (by decide) ?_
    have eF : (F_X5_grace ka kb kc mo ki am sk dn np n) = (((F_X5_look ka kb kc mo ki am sk dn np n).1).2.2.2.2.1, ((F_X5_look ka kb kc mo ki am sk dn np n).1), (F_X5_look ka kb kc mo ki am sk dn np n).2.1, (F_X5_look ka kb kc mo ki am sk dn np n).2.2) := by
      unfold F_X5_grace
      rw [if_pos c_1]
    exact k_iret (wf := [cM h (ka, kb, kc, (nI np), (nI n)) ((F_X5_look ka kb kc mo ki am sk dn np n).1) ((F_X5_look ka kb kc mo ki am sk dn np n).2.1), aI G (h 19) 60 mo, aI G (h 20) 60 ki, aI G (h 21) 60 am, aZ G (h 22) 60 sk, aZ G (h 23) 60 ((F_X5_look ka kb kc mo ki am sk dn np n).2.2)]) S hr hlk hK hW [0, 1, 2, 3, 4, 5] rfl rfl (congrArg (fun (z : Int32 × S7 × Int32 × (Nat → Bool)) => [cM h (ka, kb, kc, (nI np), (nI n)) z.2.1 z.2.2.1, aI G (h 19) 60 mo, aI G (h 20) 60 ki, aI G (h 21) 60 am, aZ G (h 22) 60 sk, aZ G (h 23) 60 z.2.2.2]) eF).symm (congrArg (fun (z : Int32 × S7 × Int32 × (Nat → Bool)) => z.1) eF).symm dX5_grace_20
theorem vp_n60 {n : Nat} (hn : n ≤ 60) (h : ¬ nI n = 60) : n + 1 ≤ 60 := by
  rcases Nat.lt_or_ge n 60 with q | q
  · omega
  · exact absurd (by rw [← nI_60, show n = 60 by omega]) h
theorem cl_of {x : Int32} (h : 0 ≤ x) : x = nI x.toNatClampNeg := by
  rw [Int32.le_iff_toInt_le] at h
  obtain ⟨j, hj, e⟩ := nI_of (x := x) (fun q => by
    rw [Int32.lt_iff_toInt_lt] at q
    omega)
  rw [e, nI_clamp hj]
theorem in5 {x y z : Int32} (h : ¬ bI (F_X5_in x y z) = 0) : y ≤ x ∧ x ≤ z := by
  rw [nbI0] at h
  unfold F_X5_in at h
  split at h
  · cases h
  · rename_i h1
    split at h
    · cases h
    · rename_i h2
      rw [Int32.lt_iff_toInt_lt] at h1 h2
      rw [Int32.le_iff_toInt_le, Int32.le_iff_toInt_le]
      omega
theorem cl_le {x : Int32} {b : Nat} (hb : b < 2 ^ 31) (h0 : 0 ≤ x) (h : x ≤ nI b) : x.toNatClampNeg ≤ b := by
  obtain ⟨j, hj, e⟩ := nI_of (x := x) (fun q => by
    rw [Int32.le_iff_toInt_le] at h0
    rw [Int32.lt_iff_toInt_lt] at q
    omega)
  rw [e] at h ⊢
  rw [nI_clamp hj]
  rcases Nat.lt_or_ge b j with q | q
  · exact absurd h (nI_ge q hj)
  · exact q
theorem act_in {x : Int32} {n : Nat} (hn : n ≤ 60) (h : ¬ bI (F_X5_in x 0 (nI n - 1)) = 0) : vp_in x 60 := by
  obtain ⟨h1, h2⟩ := in5 h
  rw [vp_in_iff]
  rw [Int32.le_iff_toInt_le] at h1 h2
  have e0 : (0 : Int32).toInt = 0 := by decide
  cases n with
  | zero =>
    have e1 : (nI 0 - 1 : Int32).toInt = -1 := by decide +kernel
    omega
  | succ n =>
    rw [nI_pred, nI_toInt (by omega)] at h2
    omega
def F_X5_tell (ka : Int32) (kb : Int32) (kc : Int32) (v : S7) (mo : (Nat → Int32)) (ki : (Nat → Int32)) (am : (Nat → Int32)) (sk : (Nat → Bool)) (dn : (Nat → Bool)) (m : Int32) (a : Int32) (x : Int32) (np : Nat) (n : Nat) : Bool × Int32 × S7 × Int32 × (Nat → Int32) × (Nat → Int32) × (Nat → Int32) × (Nat → Bool) × (Nat → Bool) :=
  if bI (F_X5_in m 0 (nI np)) = 0 then (false, nI n, v, 1, mo, ki, am, sk, dn)
  else (if bI (F_X5_in a 0 5) = 0 then (false, nI n, v, 1, mo, ki, am, sk, dn)
    else (if bI (F_X5_in x 1 2000000) = 0 then (false, nI n, v, 1, mo, ki, am, sk, dn)
      else (if nI n = 60 then (false, nI n, v, 2, mo, ki, am, sk, dn)
        else ((((F_X5_goNow ka kb kc (upd mo (nI n).toNatClampNeg m) (upd ki (nI n).toNatClampNeg a) (upd am (nI n).toNatClampNeg x) (updB sk (nI n).toNatClampNeg false) dn np (n + 1)).2) (nI (n + 1) - 1).toNatClampNeg), nI (n + 1), ((F_X5_goNow ka kb kc (upd mo (nI n).toNatClampNeg m) (upd ki (nI n).toNatClampNeg a) (upd am (nI n).toNatClampNeg x) (updB sk (nI n).toNatClampNeg false) dn np (n + 1)).1), 0, (upd mo (nI n).toNatClampNeg m), (upd ki (nI n).toNatClampNeg a), (upd am (nI n).toNatClampNeg x), (updB sk (nI n).toNatClampNeg false), (F_X5_goNow ka kb kc (upd mo (nI n).toNatClampNeg m) (upd ki (nI n).toNatClampNeg a) (upd am (nI n).toNatClampNeg x) (updB sk (nI n).toNatClampNeg false) dn np (n + 1)).2))))
set_option maxRecDepth 100000 in
theorem k_X5_tell_f122 : Cond.fieldLink RX5 122 "FlexiblePolicyModel" "now" "I" ∈ wsX5_tell := by decide +kernel
set_option maxRecDepth 100000 in
theorem k_X5_tell_in5 : ∀ w ∈ u_ws RX5 TX5 18, w ∈ wsX5_tell := by decide +kernel
set_option maxRecDepth 100000 in
theorem k_X5_tell_f34 : Cond.fieldLink RX5 34 "FlexiblePolicyModel" "thrown" "I" ∈ wsX5_tell := by decide +kernel
set_option maxRecDepth 100000 in
theorem k_X5_tell_c133 : Cond.constant RX5 133 (2000000) ∈ wsX5_tell := by decide +kernel
set_option maxRecDepth 100000 in
theorem k_X5_tell_f105 : Cond.fieldLink RX5 105 "FlexiblePolicyModel" "actMany" "I" ∈ wsX5_tell := by decide +kernel
set_option maxRecDepth 100000 in
theorem k_X5_tell_f7 : Cond.fieldLink RX5 7 "FlexiblePolicyModel" "months" "[I" ∈ wsX5_tell := by decide +kernel
set_option maxRecDepth 100000 in
theorem k_X5_tell_f13 : Cond.fieldLink RX5 13 "FlexiblePolicyModel" "acts" "[I" ∈ wsX5_tell := by decide +kernel
set_option maxRecDepth 100000 in
theorem k_X5_tell_f16 : Cond.fieldLink RX5 16 "FlexiblePolicyModel" "amounts" "[I" ∈ wsX5_tell := by decide +kernel
set_option maxRecDepth 100000 in
theorem k_X5_tell_f19 : Cond.fieldLink RX5 19 "FlexiblePolicyModel" "isStruck" "[Z" ∈ wsX5_tell := by decide +kernel
set_option maxRecDepth 100000 in
theorem k_X5_tell_f23 : Cond.fieldLink RX5 23 "FlexiblePolicyModel" "isDone" "[Z" ∈ wsX5_tell := by decide +kernel
theorem nd_X5_tell : yX5_tell.cls = RX5 ∧ yX5_tell.cls ≠ "java/lang/invoke/MethodHandle" ∧ yX5_tell.cls ≠ "java/lang/invoke/VarHandle" ∧ (parseMethodDescriptor yX5_tell.desc).map (fun d => d.parameters.length) = some 3 := by decide +kernel
abbrev rm_X5_tell : Room := { frames := 6, cells := 0, slots := 0, locals := 136 }
set_option maxHeartbeats 4000000 in
set_option maxRecDepth 100000 in
theorem c_X5_tell (l : Launch) (G : GG) (h : Nat → Nat) (ka : Int32) (kb : Int32) (kc : Int32) (v : S7) (t : Int32) (mo : (Nat → Int32)) (ki : (Nat → Int32)) (am : (Nat → Int32)) (sk : (Nat → Bool)) (dn : (Nat → Bool)) (m : Int32) (a : Int32) (x : Int32) (np : Nat) (n : Nat) (hn : n ≤ 60) (hp : np ≤ 120) : CI l G yX5_tell wsX5_tell rm_X5_tell [.ref (h 18), .int m, .int a, .int x] [cM h (ka, kb, kc, (nI np), (nI n)) v t, aI G (h 19) 60 mo, aI G (h 20) 60 ki, aI G (h 21) 60 am, aZ G (h 22) 60 sk, aZ G (h 23) 60 dn] (bI ((F_X5_tell ka kb kc v mo ki am sk dn m a x np n).1)) [cM h (ka, kb, kc, (nI np), ((F_X5_tell ka kb kc v mo ki am sk dn m a x np n).2.1)) ((F_X5_tell ka kb kc v mo ki am sk dn m a x np n).2.2.1) ((F_X5_tell ka kb kc v mo ki am sk dn m a x np n).2.2.2.1), aI G (h 19) 60 ((F_X5_tell ka kb kc v mo ki am sk dn m a x np n).2.2.2.2.1), aI G (h 20) 60 ((F_X5_tell ka kb kc v mo ki am sk dn m a x np n).2.2.2.2.2.1), aI G (h 21) 60 ((F_X5_tell ka kb kc v mo ki am sk dn m a x np n).2.2.2.2.2.2.1), aZ G (h 22) 60 ((F_X5_tell ka kb kc v mo ki am sk dn m a x np n).2.2.2.2.2.2.2.1), aZ G (h 23) 60 ((F_X5_tell ka kb kc v mo ki am sk dn m a x np n).2.2.2.2.2.2.2.2)] := by
  refine CI_of (own := RX5) (by decide +kernel) rfl rfl (Nat.le_of_ble_eq_true rfl) ?_
  intro pP eE sS mM args below meth cC A S hK hr hlk hmn hW ls hl
  have hx := S.1
  have hb := S.2.1
  have hl : lv_has ls 4 [(0, .ref (h 18)), (1, .int m), (2, .int a), (3, .int x)] := hl
  have hW : Wd G A sS.heap [cM h (ka, kb, kc, (nI np), (nI n)) v t, aI G (h 19) 60 mo, aI G (h 20) 60 ki, aI G (h 21) 60 am, aZ G (h 22) 60 sk, aZ G (h 23) 60 dn] sS.heap [] := hW
  refine lv_aload_n hx hb dX5_tell_0 rfl (lv_at hl 0 rfl) ?_
  refine lv_iload_n hx hb dX5_tell_1 rfl (lv_at hl 1 rfl) ?_
  refine lv_iconst (v := 0) hx hb dX5_tell_2 (by decide) ?_
  refine lv_aload_n hx hb dX5_tell_3 rfl (lv_at hl 0 rfl) ?_
  refine k_get (C := RX5) (T := TX5) (N := 18) (ci := 5) (v := .int (nI np)) S hK hW k_X5_tell_in5 0 3 rfl rfl (by decide) k_X5_tell_f122 rfl dX5_tell_4 ?_
  refine k_callSi (As := [.int m, .int 0, .int (nI np)]) (rest := [.ref (h 18)]) (wr := [cM h (ka, kb, kc, (nI np), (nI n)) v t, aI G (h 19) 60 mo, aI G (h 20) 60 ki, aI G (h 21) 60 am, aZ G (h 22) 60 sk, aZ G (h 23) 60 dn]) (c_X5_in l G m 0 (nI np)) S hK hW gX5_tell_X5_in rfl ⟨rfl, rfl⟩ nd_X5_in ⟨rfl, rfl⟩ [] [0, 1, 2, 3, 4, 5] rfl rfl rfl rfl (by decide) rfl hl.1 rfl dX5_tell_7 ⟨Nat.zero_le _, Nat.zero_le _⟩ (fun H locs hW => ?_)
  have hW : Wd G A sS.heap [cM h (ka, kb, kc, (nI np), (nI n)) v t, aI G (h 19) 60 mo, aI G (h 20) 60 ki, aI G (h 21) 60 am, aZ G (h 22) 60 sk, aZ G (h 23) 60 dn] H locs := hW
  refine lv_if_eq (tgt := 32) hx hb dX5_tell_10 (by decide) (fun c_1 => ?_) (fun c_1 => ?_)
  ·
    refine lv_iconst (v := 1) hx hb dX5_tell_32 (by decide) ?_
    refine lv_goto (tgt := 50) hx hb dX5_tell_33 (by decide) ?_
    refine k_put (C := RX5) (T := TX5) (N := 18) (ci := 5) (v := .int 1) (ws' := [cM h (ka, kb, kc, (nI np), (nI n)) v 1, aI G (h 19) 60 mo, aI G (h 20) 60 ki, aI G (h 21) 60 am, aZ G (h 22) 60 sk, aZ G (h 23) 60 dn]) S hK hW k_X5_tell_in5 tyX5_ok nmX5 0 17 rfl rfl (by decide) k_X5_tell_f34 rfl rfl rfl rfl rfl dX5_tell_50 (fun H locs hW => ?_)
    refine lv_aload_n hx hb dX5_tell_53 rfl (lv_at hl 0 rfl) ?_
    refine k_get (C := RX5) (T := TX5) (N := 18) (ci := 5) (v := .int 1) S hK hW k_X5_tell_in5 0 17 rfl rfl (by decide) k_X5_tell_f34 rfl dX5_tell_54 ?_
    refine lv_if_le (tgt := 62) hx hb dX5_tell_57 (by decide) (fun c_2 => ?_) (fun c_2 => ?_)
    ·
      exact absurd c_2 (by decide)
    ·
      refine lv_iconst (v := 0) hx hb dX5_tell_60 (by decide) ?_
      have eF : (F_X5_tell ka kb kc v mo ki am sk dn m a x np n) = (false, nI n, v, 1, mo, ki, am, sk, dn) := by
        unfold F_X5_tell
        rw [if_pos c_1]
      exact k_zret (wf := [cM h (ka, kb, kc, (nI np), (nI n)) v 1, aI G (h 19) 60 mo, aI G (h 20) 60 ki, aI G (h 21) 60 am, aZ G (h 22) 60 sk, aZ G (h 23) 60 dn]) S hr hlk hK hW [0, 1, 2, 3, 4, 5] rfl rfl (congrArg (fun (z : Bool × Int32 × S7 × Int32 × (Nat → Int32) × (Nat → Int32) × (Nat → Int32) × (Nat → Bool) × (Nat → Bool)) => [cM h (ka, kb, kc, (nI np), z.2.1) z.2.2.1 z.2.2.2.1, aI G (h 19) 60 z.2.2.2.2.1, aI G (h 20) 60 z.2.2.2.2.2.1, aI G (h 21) 60 z.2.2.2.2.2.2.1, aZ G (h 22) 60 z.2.2.2.2.2.2.2.1, aZ G (h 23) 60 z.2.2.2.2.2.2.2.2]) eF).symm (congrArg (fun (z : Bool × Int32 × S7 × Int32 × (Nat → Int32) × (Nat → Int32) × (Nat → Int32) × (Nat → Bool) × (Nat → Bool)) => bI z.1) eF).symm dX5_tell_61
  ·
    refine lv_iload_n hx hb dX5_tell_13 rfl (lv_at hl 2 rfl) ?_
    refine lv_iconst (v := 0) hx hb dX5_tell_14 (by decide) ?_
    refine lv_iconst (v := 5) hx hb dX5_tell_15 (by decide) ?_
    refine k_callSi (As := [.int a, .int 0, .int 5]) (rest := [.ref (h 18)]) (wr := [cM h (ka, kb, kc, (nI np), (nI n)) v t, aI G (h 19) 60 mo, aI G (h 20) 60 ki, aI G (h 21) 60 am, aZ G (h 22) 60 sk, aZ G (h 23) 60 dn]) (c_X5_in l G a 0 5) S hK hW gX5_tell_X5_in rfl ⟨rfl, rfl⟩ nd_X5_in ⟨rfl, rfl⟩ [] [0, 1, 2, 3, 4, 5] rfl rfl rfl rfl (by decide) rfl hl.1 rfl dX5_tell_16 ⟨Nat.zero_le _, Nat.zero_le _⟩ (fun H locs hW => ?_)
    have hW : Wd G A sS.heap [cM h (ka, kb, kc, (nI np), (nI n)) v t, aI G (h 19) 60 mo, aI G (h 20) 60 ki, aI G (h 21) 60 am, aZ G (h 22) 60 sk, aZ G (h 23) 60 dn] H locs := hW
    refine lv_if_eq (tgt := 32) hx hb dX5_tell_19 (by decide) (fun c_3 => ?_) (fun c_3 => ?_)
    ·
      refine lv_iconst (v := 1) hx hb dX5_tell_32 (by decide) ?_
      refine lv_goto (tgt := 50) hx hb dX5_tell_33 (by decide) ?_
      refine k_put (C := RX5) (T := TX5) (N := 18) (ci := 5) (v := .int 1) (ws' := [cM h (ka, kb, kc, (nI np), (nI n)) v 1, aI G (h 19) 60 mo, aI G (h 20) 60 ki, aI G (h 21) 60 am, aZ G (h 22) 60 sk, aZ G (h 23) 60 dn]) S hK hW k_X5_tell_in5 tyX5_ok nmX5 0 17 rfl rfl (by decide) k_X5_tell_f34 rfl rfl rfl rfl rfl dX5_tell_50 (fun H locs hW => ?_)
      refine lv_aload_n hx hb dX5_tell_53 rfl (lv_at hl 0 rfl) ?_
      refine k_get (C := RX5) (T := TX5) (N := 18) (ci := 5) (v := .int 1) S hK hW k_X5_tell_in5 0 17 rfl rfl (by decide) k_X5_tell_f34 rfl dX5_tell_54 ?_
      refine lv_if_le (tgt := 62) hx hb dX5_tell_57 (by decide) (fun c_4 => ?_) (fun c_4 => ?_)
      ·
        exact absurd c_4 (by decide)
      ·
        refine lv_iconst (v := 0) hx hb dX5_tell_60 (by decide) ?_
        have eF : (F_X5_tell ka kb kc v mo ki am sk dn m a x np n) = (false, nI n, v, 1, mo, ki, am, sk, dn) := by
          unfold F_X5_tell
          rw [if_neg c_1, if_pos c_3]
        exact k_zret (wf := [cM h (ka, kb, kc, (nI np), (nI n)) v 1, aI G (h 19) 60 mo, aI G (h 20) 60 ki, aI G (h 21) 60 am, aZ G (h 22) 60 sk, aZ G (h 23) 60 dn]) S hr hlk hK hW [0, 1, 2, 3, 4, 5] rfl rfl (congrArg (fun (z : Bool × Int32 × S7 × Int32 × (Nat → Int32) × (Nat → Int32) × (Nat → Int32) × (Nat → Bool) × (Nat → Bool)) => [cM h (ka, kb, kc, (nI np), z.2.1) z.2.2.1 z.2.2.2.1, aI G (h 19) 60 z.2.2.2.2.1, aI G (h 20) 60 z.2.2.2.2.2.1, aI G (h 21) 60 z.2.2.2.2.2.2.1, aZ G (h 22) 60 z.2.2.2.2.2.2.2.1, aZ G (h 23) 60 z.2.2.2.2.2.2.2.2]) eF).symm (congrArg (fun (z : Bool × Int32 × S7 × Int32 × (Nat → Int32) × (Nat → Int32) × (Nat → Int32) × (Nat → Bool) × (Nat → Bool)) => bI z.1) eF).symm dX5_tell_61
    ·
      refine lv_iload_n hx hb dX5_tell_22 rfl (lv_at hl 3 rfl) ?_
      refine lv_iconst (v := 1) hx hb dX5_tell_23 (by decide) ?_
      refine k_ldc S k_X5_tell_c133 dX5_tell_24 ?_
      refine k_callSi (As := [.int x, .int 1, .int 2000000]) (rest := [.ref (h 18)]) (wr := [cM h (ka, kb, kc, (nI np), (nI n)) v t, aI G (h 19) 60 mo, aI G (h 20) 60 ki, aI G (h 21) 60 am, aZ G (h 22) 60 sk, aZ G (h 23) 60 dn]) (c_X5_in l G x 1 2000000) S hK hW gX5_tell_X5_in rfl ⟨rfl, rfl⟩ nd_X5_in ⟨rfl, rfl⟩ [] [0, 1, 2, 3, 4, 5] rfl rfl rfl rfl (by decide) rfl hl.1 rfl dX5_tell_26 ⟨Nat.zero_le _, Nat.zero_le _⟩ (fun H locs hW => ?_)
      have hW : Wd G A sS.heap [cM h (ka, kb, kc, (nI np), (nI n)) v t, aI G (h 19) 60 mo, aI G (h 20) 60 ki, aI G (h 21) 60 am, aZ G (h 22) 60 sk, aZ G (h 23) 60 dn] H locs := hW
      refine lv_if_ne (tgt := 36) hx hb dX5_tell_29 (by decide) (fun c_5 => ?_) (fun c_5 => ?_)
      ·
        refine lv_aload_n hx hb dX5_tell_36 rfl (lv_at hl 0 rfl) ?_
        refine k_get (C := RX5) (T := TX5) (N := 18) (ci := 5) (v := .int (nI n)) S hK hW k_X5_tell_in5 0 4 rfl rfl (by decide) k_X5_tell_f105 rfl dX5_tell_37 ?_
        refine lv_bipush (v := 60) hx hb dX5_tell_40 (by decide) ?_
        refine lv_icmp_ne (tgt := 49) hx hb dX5_tell_42 (by decide) (fun c_6 => ?_) (fun c_6 => ?_)
        ·
          refine lv_iconst (v := 0) hx hb dX5_tell_49 (by decide) ?_
          refine k_put (C := RX5) (T := TX5) (N := 18) (ci := 5) (v := .int 0) (ws' := [cM h (ka, kb, kc, (nI np), (nI n)) v 0, aI G (h 19) 60 mo, aI G (h 20) 60 ki, aI G (h 21) 60 am, aZ G (h 22) 60 sk, aZ G (h 23) 60 dn]) S hK hW k_X5_tell_in5 tyX5_ok nmX5 0 17 rfl rfl (by decide) k_X5_tell_f34 rfl rfl rfl rfl rfl dX5_tell_50 (fun H locs hW => ?_)
          refine lv_aload_n hx hb dX5_tell_53 rfl (lv_at hl 0 rfl) ?_
          refine k_get (C := RX5) (T := TX5) (N := 18) (ci := 5) (v := .int 0) S hK hW k_X5_tell_in5 0 17 rfl rfl (by decide) k_X5_tell_f34 rfl dX5_tell_54 ?_
          refine lv_if_le (tgt := 62) hx hb dX5_tell_57 (by decide) (fun c_7 => ?_) (fun c_7 => ?_)
          ·
            refine lv_aload_n hx hb dX5_tell_62 rfl (lv_at hl 0 rfl) ?_
            refine k_get (C := RX5) (T := TX5) (N := 18) (ci := 5) (v := .ref (h 19)) S hK hW k_X5_tell_in5 0 5 rfl rfl (by decide) k_X5_tell_f7 rfl dX5_tell_63 ?_
            refine lv_aload_n hx hb dX5_tell_66 rfl (lv_at hl 0 rfl) ?_
            refine k_get (C := RX5) (T := TX5) (N := 18) (ci := 5) (v := .int (nI n)) S hK hW k_X5_tell_in5 0 4 rfl rfl (by decide) k_X5_tell_f105 rfl dX5_tell_67 ?_
            refine lv_iload_n hx hb dX5_tell_70 rfl (lv_at hl 1 rfl) ?_
            refine k_iast (n := 60) (ws' := [cM h (ka, kb, kc, (nI np), (nI n)) v 0, aI G (h 19) 60 (upd mo (nI n).toNatClampNeg m), aI G (h 20) 60 ki, aI G (h 21) 60 am, aZ G (h 22) 60 sk, aZ G (h 23) 60 dn]) S hK hW 1 rfl (i := nI n) (vp_in_nI (vp_n60 hn c_6) (by omega)) rfl dX5_tell_71 (fun H locs hW => ?_)
            refine lv_aload_n hx hb dX5_tell_72 rfl (lv_at hl 0 rfl) ?_
            refine k_get (C := RX5) (T := TX5) (N := 18) (ci := 5) (v := .ref (h 20)) S hK hW k_X5_tell_in5 0 6 rfl rfl (by decide) k_X5_tell_f13 rfl dX5_tell_73 ?_
            refine lv_aload_n hx hb dX5_tell_76 rfl (lv_at hl 0 rfl) ?_
            refine k_get (C := RX5) (T := TX5) (N := 18) (ci := 5) (v := .int (nI n)) S hK hW k_X5_tell_in5 0 4 rfl rfl (by decide) k_X5_tell_f105 rfl dX5_tell_77 ?_
            refine lv_iload_n hx hb dX5_tell_80 rfl (lv_at hl 2 rfl) ?_
            refine k_iast (n := 60) (ws' := [cM h (ka, kb, kc, (nI np), (nI n)) v 0, aI G (h 19) 60 (upd mo (nI n).toNatClampNeg m), aI G (h 20) 60 (upd ki (nI n).toNatClampNeg a), aI G (h 21) 60 am, aZ G (h 22) 60 sk, aZ G (h 23) 60 dn]) S hK hW 2 rfl (i := nI n) (vp_in_nI (vp_n60 hn c_6) (by omega)) rfl dX5_tell_81 (fun H locs hW => ?_)
            refine lv_aload_n hx hb dX5_tell_82 rfl (lv_at hl 0 rfl) ?_
            refine k_get (C := RX5) (T := TX5) (N := 18) (ci := 5) (v := .ref (h 21)) S hK hW k_X5_tell_in5 0 7 rfl rfl (by decide) k_X5_tell_f16 rfl dX5_tell_83 ?_
            refine lv_aload_n hx hb dX5_tell_86 rfl (lv_at hl 0 rfl) ?_
            refine k_get (C := RX5) (T := TX5) (N := 18) (ci := 5) (v := .int (nI n)) S hK hW k_X5_tell_in5 0 4 rfl rfl (by decide) k_X5_tell_f105 rfl dX5_tell_87 ?_
            refine lv_iload_n hx hb dX5_tell_90 rfl (lv_at hl 3 rfl) ?_
            refine k_iast (n := 60) (ws' := [cM h (ka, kb, kc, (nI np), (nI n)) v 0, aI G (h 19) 60 (upd mo (nI n).toNatClampNeg m), aI G (h 20) 60 (upd ki (nI n).toNatClampNeg a), aI G (h 21) 60 (upd am (nI n).toNatClampNeg x), aZ G (h 22) 60 sk, aZ G (h 23) 60 dn]) S hK hW 3 rfl (i := nI n) (vp_in_nI (vp_n60 hn c_6) (by omega)) rfl dX5_tell_91 (fun H locs hW => ?_)
            refine lv_aload_n hx hb dX5_tell_92 rfl (lv_at hl 0 rfl) ?_
            refine k_get (C := RX5) (T := TX5) (N := 18) (ci := 5) (v := .ref (h 22)) S hK hW k_X5_tell_in5 0 8 rfl rfl (by decide) k_X5_tell_f19 rfl dX5_tell_93 ?_
            refine lv_aload_n hx hb dX5_tell_96 rfl (lv_at hl 0 rfl) ?_
            refine k_get (C := RX5) (T := TX5) (N := 18) (ci := 5) (v := .int (nI n)) S hK hW k_X5_tell_in5 0 4 rfl rfl (by decide) k_X5_tell_f105 rfl dX5_tell_97 ?_
            refine lv_iconst (v := 0) hx hb dX5_tell_100 (by decide) ?_
            refine k_zast (n := 60) (ws' := [cM h (ka, kb, kc, (nI np), (nI n)) v 0, aI G (h 19) 60 (upd mo (nI n).toNatClampNeg m), aI G (h 20) 60 (upd ki (nI n).toNatClampNeg a), aI G (h 21) 60 (upd am (nI n).toNatClampNeg x), aZ G (h 22) 60 (updB sk (nI n).toNatClampNeg false), aZ G (h 23) 60 dn]) S hK hW 4 rfl (i := nI n) (b := false) rfl (vp_in_nI (vp_n60 hn c_6) (by omega)) rfl dX5_tell_101 (fun H locs hW => ?_)
            refine lv_aload_n hx hb dX5_tell_102 rfl (lv_at hl 0 rfl) ?_
            refine lv_dup hx hb dX5_tell_103 rfl ?_
            refine k_get (C := RX5) (T := TX5) (N := 18) (ci := 5) (v := .int (nI n)) S hK hW k_X5_tell_in5 0 4 rfl rfl (by decide) k_X5_tell_f105 rfl dX5_tell_104 ?_
            refine lv_iconst (v := 1) hx hb dX5_tell_107 (by decide) ?_
            refine lv_iadd hx hb dX5_tell_108 ?_
            refine k_put (C := RX5) (T := TX5) (N := 18) (ci := 5) (v := .int (nI n + 1)) (ws' := [cM h (ka, kb, kc, (nI np), (nI n + 1)) v 0, aI G (h 19) 60 (upd mo (nI n).toNatClampNeg m), aI G (h 20) 60 (upd ki (nI n).toNatClampNeg a), aI G (h 21) 60 (upd am (nI n).toNatClampNeg x), aZ G (h 22) 60 (updB sk (nI n).toNatClampNeg false), aZ G (h 23) 60 dn]) S hK hW k_X5_tell_in5 tyX5_ok nmX5 0 4 rfl rfl (by decide) k_X5_tell_f105 rfl rfl rfl rfl rfl dX5_tell_109 (fun H locs hW => ?_)
            have hn2 : n + 1 ≤ 60 := vp_n60 hn c_6
            have hW : Wd G A sS.heap [cM h (ka, kb, kc, (nI np), (nI (n + 1))) v 0, aI G (h 19) 60 (upd mo (nI n).toNatClampNeg m), aI G (h 20) 60 (upd ki (nI n).toNatClampNeg a), aI G (h 21) 60 (upd am (nI n).toNatClampNeg x), aZ G (h 22) 60 (updB sk (nI n).toNatClampNeg false), aZ G (h 23) 60 dn] H locs := by rw [← nI_1]; exact hW
            refine lv_aload_n hx hb dX5_tell_112 rfl (lv_at hl 0 rfl) ?_
            refine k_callVv (C := RX5) (As := []) (rest := []) (wr := []) (c_X5_goNow l G h ka kb kc v 0 (upd mo (nI n).toNatClampNeg m) (upd ki (nI n).toNatClampNeg a) (upd am (nI n).toNatClampNeg x) (updB sk (nI n).toNatClampNeg false) dn np (n + 1) (by omega) (by omega)) S hK hW gX5_tell_X5_goNow rfl ⟨rfl, rfl⟩ nd_X5_goNow ⟨rfl, rfl⟩ (qb := 0) (ci := 5) rfl rfl [0, 1, 2, 3, 4, 5] [] rfl rfl rfl rfl (by decide) rfl hl.1 rfl dX5_tell_113 ⟨Nat.zero_le _, Nat.zero_le _⟩ (fun H locs hW => ?_)
            have hW : Wd G A sS.heap [cM h (ka, kb, kc, (nI np), (nI (n + 1))) ((F_X5_goNow ka kb kc (upd mo (nI n).toNatClampNeg m) (upd ki (nI n).toNatClampNeg a) (upd am (nI n).toNatClampNeg x) (updB sk (nI n).toNatClampNeg false) dn np (n + 1)).1) 0, aI G (h 19) 60 (upd mo (nI n).toNatClampNeg m), aI G (h 20) 60 (upd ki (nI n).toNatClampNeg a), aI G (h 21) 60 (upd am (nI n).toNatClampNeg x), aZ G (h 22) 60 (updB sk (nI n).toNatClampNeg false), aZ G (h 23) 60 ((F_X5_goNow ka kb kc (upd mo (nI n).toNatClampNeg m) (upd ki (nI n).toNatClampNeg a) (upd am (nI n).toNatClampNeg x) (updB sk (nI n).toNatClampNeg false) dn np (n + 1)).2)] H locs := hW
            refine lv_aload_n hx hb dX5_tell_116 rfl (lv_at hl 0 rfl) ?_
            refine k_get (C := RX5) (T := TX5) (N := 18) (ci := 5) (v := .ref (h 23)) S hK hW k_X5_tell_in5 0 9 rfl rfl (by decide) k_X5_tell_f23 rfl dX5_tell_117 ?_
            refine lv_aload_n hx hb dX5_tell_120 rfl (lv_at hl 0 rfl) ?_
            refine k_get (C := RX5) (T := TX5) (N := 18) (ci := 5) (v := .int (nI (n + 1))) S hK hW k_X5_tell_in5 0 4 rfl rfl (by decide) k_X5_tell_f105 rfl dX5_tell_121 ?_
            refine lv_iconst (v := 1) hx hb dX5_tell_124 (by decide) ?_
            refine lv_isub hx hb dX5_tell_125 ?_
            refine k_zald (n := 60) S hK hW 5 rfl (i := (nI (n + 1) - 1)) (by rw [nI_pred]; exact vp_in_nI hn2 (by omega)) dX5_tell_126 ?_
            have eF : (F_X5_tell ka kb kc v mo ki am sk dn m a x np n) = ((((F_X5_goNow ka kb kc (upd mo (nI n).toNatClampNeg m) (upd ki (nI n).toNatClampNeg a) (upd am (nI n).toNatClampNeg x) (updB sk (nI n).toNatClampNeg false) dn np (n + 1)).2) (nI (n + 1) - 1).toNatClampNeg), nI (n + 1), ((F_X5_goNow ka kb kc (upd mo (nI n).toNatClampNeg m) (upd ki (nI n).toNatClampNeg a) (upd am (nI n).toNatClampNeg x) (updB sk (nI n).toNatClampNeg false) dn np (n + 1)).1), 0, (upd mo (nI n).toNatClampNeg m), (upd ki (nI n).toNatClampNeg a), (upd am (nI n).toNatClampNeg x), (updB sk (nI n).toNatClampNeg false), (F_X5_goNow ka kb kc (upd mo (nI n).toNatClampNeg m) (upd ki (nI n).toNatClampNeg a) (upd am (nI n).toNatClampNeg x) (updB sk (nI n).toNatClampNeg false) dn np (n + 1)).2) := by
              unfold F_X5_tell
              rw [if_neg c_1, if_neg c_3, if_neg c_5, if_neg c_6]
            exact k_zret (wf := [cM h (ka, kb, kc, (nI np), (nI (n + 1))) ((F_X5_goNow ka kb kc (upd mo (nI n).toNatClampNeg m) (upd ki (nI n).toNatClampNeg a) (upd am (nI n).toNatClampNeg x) (updB sk (nI n).toNatClampNeg false) dn np (n + 1)).1) 0, aI G (h 19) 60 (upd mo (nI n).toNatClampNeg m), aI G (h 20) 60 (upd ki (nI n).toNatClampNeg a), aI G (h 21) 60 (upd am (nI n).toNatClampNeg x), aZ G (h 22) 60 (updB sk (nI n).toNatClampNeg false), aZ G (h 23) 60 ((F_X5_goNow ka kb kc (upd mo (nI n).toNatClampNeg m) (upd ki (nI n).toNatClampNeg a) (upd am (nI n).toNatClampNeg x) (updB sk (nI n).toNatClampNeg false) dn np (n + 1)).2)]) S hr hlk hK hW [0, 1, 2, 3, 4, 5] rfl rfl (congrArg (fun (z : Bool × Int32 × S7 × Int32 × (Nat → Int32) × (Nat → Int32) × (Nat → Int32) × (Nat → Bool) × (Nat → Bool)) => [cM h (ka, kb, kc, (nI np), z.2.1) z.2.2.1 z.2.2.2.1, aI G (h 19) 60 z.2.2.2.2.1, aI G (h 20) 60 z.2.2.2.2.2.1, aI G (h 21) 60 z.2.2.2.2.2.2.1, aZ G (h 22) 60 z.2.2.2.2.2.2.2.1, aZ G (h 23) 60 z.2.2.2.2.2.2.2.2]) eF).symm (congrArg (fun (z : Bool × Int32 × S7 × Int32 × (Nat → Int32) × (Nat → Int32) × (Nat → Int32) × (Nat → Bool) × (Nat → Bool)) => bI z.1) eF).symm dX5_tell_127
          ·
            exact absurd c_7 (by decide)
        ·
          refine lv_iconst (v := 2) hx hb dX5_tell_45 (by decide) ?_
          refine lv_goto (tgt := 50) hx hb dX5_tell_46 (by decide) ?_
          refine k_put (C := RX5) (T := TX5) (N := 18) (ci := 5) (v := .int 2) (ws' := [cM h (ka, kb, kc, (nI np), (nI n)) v 2, aI G (h 19) 60 mo, aI G (h 20) 60 ki, aI G (h 21) 60 am, aZ G (h 22) 60 sk, aZ G (h 23) 60 dn]) S hK hW k_X5_tell_in5 tyX5_ok nmX5 0 17 rfl rfl (by decide) k_X5_tell_f34 rfl rfl rfl rfl rfl dX5_tell_50 (fun H locs hW => ?_)
          refine lv_aload_n hx hb dX5_tell_53 rfl (lv_at hl 0 rfl) ?_
          refine k_get (C := RX5) (T := TX5) (N := 18) (ci := 5) (v := .int 2) S hK hW k_X5_tell_in5 0 17 rfl rfl (by decide) k_X5_tell_f34 rfl dX5_tell_54 ?_
          refine lv_if_le (tgt := 62) hx hb dX5_tell_57 (by decide) (fun c_8 => ?_) (fun c_8 => ?_)
          ·
            exact absurd c_8 (by decide)
          ·
            refine lv_iconst (v := 0) hx hb dX5_tell_60 (by decide) ?_
            have eF : (F_X5_tell ka kb kc v mo ki am sk dn m a x np n) = (false, nI n, v, 2, mo, ki, am, sk, dn) := by
              unfold F_X5_tell
              rw [if_neg c_1, if_neg c_3, if_neg c_5, if_pos c_6]
            exact k_zret (wf := [cM h (ka, kb, kc, (nI np), (nI n)) v 2, aI G (h 19) 60 mo, aI G (h 20) 60 ki, aI G (h 21) 60 am, aZ G (h 22) 60 sk, aZ G (h 23) 60 dn]) S hr hlk hK hW [0, 1, 2, 3, 4, 5] rfl rfl (congrArg (fun (z : Bool × Int32 × S7 × Int32 × (Nat → Int32) × (Nat → Int32) × (Nat → Int32) × (Nat → Bool) × (Nat → Bool)) => [cM h (ka, kb, kc, (nI np), z.2.1) z.2.2.1 z.2.2.2.1, aI G (h 19) 60 z.2.2.2.2.1, aI G (h 20) 60 z.2.2.2.2.2.1, aI G (h 21) 60 z.2.2.2.2.2.2.1, aZ G (h 22) 60 z.2.2.2.2.2.2.2.1, aZ G (h 23) 60 z.2.2.2.2.2.2.2.2]) eF).symm (congrArg (fun (z : Bool × Int32 × S7 × Int32 × (Nat → Int32) × (Nat → Int32) × (Nat → Int32) × (Nat → Bool) × (Nat → Bool)) => bI z.1) eF).symm dX5_tell_61
      ·
        refine lv_iconst (v := 1) hx hb dX5_tell_32 (by decide) ?_
        refine lv_goto (tgt := 50) hx hb dX5_tell_33 (by decide) ?_
        refine k_put (C := RX5) (T := TX5) (N := 18) (ci := 5) (v := .int 1) (ws' := [cM h (ka, kb, kc, (nI np), (nI n)) v 1, aI G (h 19) 60 mo, aI G (h 20) 60 ki, aI G (h 21) 60 am, aZ G (h 22) 60 sk, aZ G (h 23) 60 dn]) S hK hW k_X5_tell_in5 tyX5_ok nmX5 0 17 rfl rfl (by decide) k_X5_tell_f34 rfl rfl rfl rfl rfl dX5_tell_50 (fun H locs hW => ?_)
        refine lv_aload_n hx hb dX5_tell_53 rfl (lv_at hl 0 rfl) ?_
        refine k_get (C := RX5) (T := TX5) (N := 18) (ci := 5) (v := .int 1) S hK hW k_X5_tell_in5 0 17 rfl rfl (by decide) k_X5_tell_f34 rfl dX5_tell_54 ?_
        refine lv_if_le (tgt := 62) hx hb dX5_tell_57 (by decide) (fun c_9 => ?_) (fun c_9 => ?_)
        ·
          exact absurd c_9 (by decide)
        ·
          refine lv_iconst (v := 0) hx hb dX5_tell_60 (by decide) ?_
          have eF : (F_X5_tell ka kb kc v mo ki am sk dn m a x np n) = (false, nI n, v, 1, mo, ki, am, sk, dn) := by
            unfold F_X5_tell
            rw [if_neg c_1, if_neg c_3, if_pos c_5]
          exact k_zret (wf := [cM h (ka, kb, kc, (nI np), (nI n)) v 1, aI G (h 19) 60 mo, aI G (h 20) 60 ki, aI G (h 21) 60 am, aZ G (h 22) 60 sk, aZ G (h 23) 60 dn]) S hr hlk hK hW [0, 1, 2, 3, 4, 5] rfl rfl (congrArg (fun (z : Bool × Int32 × S7 × Int32 × (Nat → Int32) × (Nat → Int32) × (Nat → Int32) × (Nat → Bool) × (Nat → Bool)) => [cM h (ka, kb, kc, (nI np), z.2.1) z.2.2.1 z.2.2.2.1, aI G (h 19) 60 z.2.2.2.2.1, aI G (h 20) 60 z.2.2.2.2.2.1, aI G (h 21) 60 z.2.2.2.2.2.2.1, aZ G (h 22) 60 z.2.2.2.2.2.2.2.1, aZ G (h 23) 60 z.2.2.2.2.2.2.2.2]) eF).symm (congrArg (fun (z : Bool × Int32 × S7 × Int32 × (Nat → Int32) × (Nat → Int32) × (Nat → Int32) × (Nat → Bool) × (Nat → Bool)) => bI z.1) eF).symm dX5_tell_61
def F_X5_isAct (sk : (Nat → Bool)) (x : Int32) (n : Nat) : Bool × Int32 :=
  if bI (F_X5_in x 0 (nI n - 1)) = 0 then (false, 1)
  else (if bI (sk x.toNatClampNeg) = 0 then (true, 0)
    else (false, 1))
set_option maxRecDepth 100000 in
theorem k_X5_isAct_f105 : Cond.fieldLink RX5 105 "FlexiblePolicyModel" "actMany" "I" ∈ wsX5_isAct := by decide +kernel
set_option maxRecDepth 100000 in
theorem k_X5_isAct_in5 : ∀ w ∈ u_ws RX5 TX5 18, w ∈ wsX5_isAct := by decide +kernel
set_option maxRecDepth 100000 in
theorem k_X5_isAct_f34 : Cond.fieldLink RX5 34 "FlexiblePolicyModel" "thrown" "I" ∈ wsX5_isAct := by decide +kernel
set_option maxRecDepth 100000 in
theorem k_X5_isAct_f19 : Cond.fieldLink RX5 19 "FlexiblePolicyModel" "isStruck" "[Z" ∈ wsX5_isAct := by decide +kernel
theorem nd_X5_isAct : yX5_isAct.cls = RX5 ∧ yX5_isAct.cls ≠ "java/lang/invoke/MethodHandle" ∧ yX5_isAct.cls ≠ "java/lang/invoke/VarHandle" ∧ (parseMethodDescriptor yX5_isAct.desc).map (fun d => d.parameters.length) = some 1 := by decide +kernel
abbrev rm_X5_isAct : Room := { frames := 1, cells := 0, slots := 0, locals := 22 }
set_option maxHeartbeats 4000000 in
set_option maxRecDepth 100000 in
theorem c_X5_isAct (l : Launch) (G : GG) (h : Nat → Nat) (ka : Int32) (kb : Int32) (kc : Int32) (kd : Int32) (v : S7) (t : Int32) (sk : (Nat → Bool)) (x : Int32) (n : Nat) (hn : n ≤ 60) : CI l G yX5_isAct wsX5_isAct rm_X5_isAct [.ref (h 18), .int x] [cM h (ka, kb, kc, kd, (nI n)) v t, aZ G (h 22) 60 sk] (bI ((F_X5_isAct sk x n).1)) [cM h (ka, kb, kc, kd, (nI n)) v ((F_X5_isAct sk x n).2), aZ G (h 22) 60 sk] := by
  refine CI_of (own := RX5) (by decide +kernel) rfl rfl (Nat.le_of_ble_eq_true rfl) ?_
  intro pP eE sS mM args below meth cC A S hK hr hlk hmn hW ls hl
  have hx := S.1
  have hb := S.2.1
  have hl : lv_has ls 2 [(0, .ref (h 18)), (1, .int x)] := hl
  have hW : Wd G A sS.heap [cM h (ka, kb, kc, kd, (nI n)) v t, aZ G (h 22) 60 sk] sS.heap [] := hW
  refine lv_aload_n hx hb dX5_isAct_0 rfl (lv_at hl 0 rfl) ?_
  refine lv_iload_n hx hb dX5_isAct_1 rfl (lv_at hl 1 rfl) ?_
  refine lv_iconst (v := 0) hx hb dX5_isAct_2 (by decide) ?_
  refine lv_aload_n hx hb dX5_isAct_3 rfl (lv_at hl 0 rfl) ?_
  refine k_get (C := RX5) (T := TX5) (N := 18) (ci := 5) (v := .int (nI n)) S hK hW k_X5_isAct_in5 0 4 rfl rfl (by decide) k_X5_isAct_f105 rfl dX5_isAct_4 ?_
  refine lv_iconst (v := 1) hx hb dX5_isAct_7 (by decide) ?_
  refine lv_isub hx hb dX5_isAct_8 ?_
  refine k_callSi (As := [.int x, .int 0, .int (nI n - 1)]) (rest := [.ref (h 18)]) (wr := [cM h (ka, kb, kc, kd, (nI n)) v t, aZ G (h 22) 60 sk]) (c_X5_in l G x 0 (nI n - 1)) S hK hW gX5_isAct_X5_in rfl ⟨rfl, rfl⟩ nd_X5_in ⟨rfl, rfl⟩ [] [0, 1] rfl rfl rfl rfl (by decide) rfl hl.1 rfl dX5_isAct_9 ⟨Nat.zero_le _, Nat.zero_le _⟩ (fun H locs hW => ?_)
  have hW : Wd G A sS.heap [cM h (ka, kb, kc, kd, (nI n)) v t, aZ G (h 22) 60 sk] H locs := hW
  refine lv_if_eq (tgt := 28) hx hb dX5_isAct_12 (by decide) (fun c_1 => ?_) (fun c_1 => ?_)
  ·
    refine lv_iconst (v := 1) hx hb dX5_isAct_28 (by decide) ?_
    refine k_put (C := RX5) (T := TX5) (N := 18) (ci := 5) (v := .int 1) (ws' := [cM h (ka, kb, kc, kd, (nI n)) v 1, aZ G (h 22) 60 sk]) S hK hW k_X5_isAct_in5 tyX5_ok nmX5 0 17 rfl rfl (by decide) k_X5_isAct_f34 rfl rfl rfl rfl rfl dX5_isAct_29 (fun H locs hW => ?_)
    refine lv_aload_n hx hb dX5_isAct_32 rfl (lv_at hl 0 rfl) ?_
    refine k_get (C := RX5) (T := TX5) (N := 18) (ci := 5) (v := .int 1) S hK hW k_X5_isAct_in5 0 17 rfl rfl (by decide) k_X5_isAct_f34 rfl dX5_isAct_33 ?_
    refine lv_if_ne (tgt := 43) hx hb dX5_isAct_36 (by decide) (fun c_2 => ?_) (fun c_2 => ?_)
    ·
      refine lv_iconst (v := 0) hx hb dX5_isAct_43 (by decide) ?_
      have eF : (F_X5_isAct sk x n) = (false, 1) := by
        unfold F_X5_isAct
        rw [if_pos c_1]
      exact k_zret (wf := [cM h (ka, kb, kc, kd, (nI n)) v 1, aZ G (h 22) 60 sk]) S hr hlk hK hW [0, 1] rfl rfl (congrArg (fun (z : Bool × Int32) => [cM h (ka, kb, kc, kd, (nI n)) v z.2, aZ G (h 22) 60 sk]) eF).symm (congrArg (fun (z : Bool × Int32) => bI z.1) eF).symm dX5_isAct_44
    ·
      exact absurd c_2 (by decide)
  ·
    refine lv_aload_n hx hb dX5_isAct_15 rfl (lv_at hl 0 rfl) ?_
    refine k_get (C := RX5) (T := TX5) (N := 18) (ci := 5) (v := .ref (h 22)) S hK hW k_X5_isAct_in5 0 8 rfl rfl (by decide) k_X5_isAct_f19 rfl dX5_isAct_16 ?_
    refine lv_iload_n hx hb dX5_isAct_19 rfl (lv_at hl 1 rfl) ?_
    refine k_zald (n := 60) S hK hW 1 rfl (i := x) (act_in hn c_1) dX5_isAct_20 ?_
    refine lv_if_ne (tgt := 28) hx hb dX5_isAct_21 (by decide) (fun c_3 => ?_) (fun c_3 => ?_)
    ·
      refine lv_iconst (v := 1) hx hb dX5_isAct_28 (by decide) ?_
      refine k_put (C := RX5) (T := TX5) (N := 18) (ci := 5) (v := .int 1) (ws' := [cM h (ka, kb, kc, kd, (nI n)) v 1, aZ G (h 22) 60 sk]) S hK hW k_X5_isAct_in5 tyX5_ok nmX5 0 17 rfl rfl (by decide) k_X5_isAct_f34 rfl rfl rfl rfl rfl dX5_isAct_29 (fun H locs hW => ?_)
      refine lv_aload_n hx hb dX5_isAct_32 rfl (lv_at hl 0 rfl) ?_
      refine k_get (C := RX5) (T := TX5) (N := 18) (ci := 5) (v := .int 1) S hK hW k_X5_isAct_in5 0 17 rfl rfl (by decide) k_X5_isAct_f34 rfl dX5_isAct_33 ?_
      refine lv_if_ne (tgt := 43) hx hb dX5_isAct_36 (by decide) (fun c_4 => ?_) (fun c_4 => ?_)
      ·
        refine lv_iconst (v := 0) hx hb dX5_isAct_43 (by decide) ?_
        have eF : (F_X5_isAct sk x n) = (false, 1) := by
          unfold F_X5_isAct
          rw [if_neg c_1, if_neg c_3]
        exact k_zret (wf := [cM h (ka, kb, kc, kd, (nI n)) v 1, aZ G (h 22) 60 sk]) S hr hlk hK hW [0, 1] rfl rfl (congrArg (fun (z : Bool × Int32) => [cM h (ka, kb, kc, kd, (nI n)) v z.2, aZ G (h 22) 60 sk]) eF).symm (congrArg (fun (z : Bool × Int32) => bI z.1) eF).symm dX5_isAct_44
      ·
        exact absurd c_4 (by decide)
    ·
      refine lv_iconst (v := 0) hx hb dX5_isAct_24 (by decide) ?_
      refine lv_goto (tgt := 29) hx hb dX5_isAct_25 (by decide) ?_
      refine k_put (C := RX5) (T := TX5) (N := 18) (ci := 5) (v := .int 0) (ws' := [cM h (ka, kb, kc, kd, (nI n)) v 0, aZ G (h 22) 60 sk]) S hK hW k_X5_isAct_in5 tyX5_ok nmX5 0 17 rfl rfl (by decide) k_X5_isAct_f34 rfl rfl rfl rfl rfl dX5_isAct_29 (fun H locs hW => ?_)
      refine lv_aload_n hx hb dX5_isAct_32 rfl (lv_at hl 0 rfl) ?_
      refine k_get (C := RX5) (T := TX5) (N := 18) (ci := 5) (v := .int 0) S hK hW k_X5_isAct_in5 0 17 rfl rfl (by decide) k_X5_isAct_f34 rfl dX5_isAct_33 ?_
      refine lv_if_ne (tgt := 43) hx hb dX5_isAct_36 (by decide) (fun c_5 => ?_) (fun c_5 => ?_)
      ·
        exact absurd c_5 (by decide)
      ·
        refine lv_iconst (v := 1) hx hb dX5_isAct_39 (by decide) ?_
        refine lv_goto (tgt := 44) hx hb dX5_isAct_40 (by decide) ?_
        have eF : (F_X5_isAct sk x n) = (true, 0) := by
          unfold F_X5_isAct
          rw [if_neg c_1, if_pos c_3]
        exact k_zret (wf := [cM h (ka, kb, kc, kd, (nI n)) v 0, aZ G (h 22) 60 sk]) S hr hlk hK hW [0, 1] rfl rfl (congrArg (fun (z : Bool × Int32) => [cM h (ka, kb, kc, kd, (nI n)) v z.2, aZ G (h 22) 60 sk]) eF).symm (congrArg (fun (z : Bool × Int32) => bI z.1) eF).symm dX5_isAct_44
theorem isAct_in {x : Int32} {n : Nat} {sk : Nat → Bool} (hn : n ≤ 60) (h : ¬ bI (F_X5_isAct sk x n).1 = 0) : vp_in x 60 := by
  by_cases q : bI (F_X5_in x 0 (nI n - 1)) = 0
  · exfalso
    apply h
    unfold F_X5_isAct
    rw [if_pos q]
    first | rfl | decide
  · exact act_in hn q
def F_X5_strike (mo : (Nat → Int32)) (sk : (Nat → Bool)) (x : Int32) (n : Nat) : Int32 × Int32 × (Nat → Bool) :=
  if bI ((F_X5_isAct sk x n).1) = 0 then (0, (F_X5_isAct sk x n).2, sk)
  else ((mo x.toNatClampNeg), (F_X5_isAct sk x n).2, (updB sk x.toNatClampNeg true))
set_option maxRecDepth 100000 in
theorem k_X5_strike_f19 : Cond.fieldLink RX5 19 "FlexiblePolicyModel" "isStruck" "[Z" ∈ wsX5_strike := by decide +kernel
set_option maxRecDepth 100000 in
theorem k_X5_strike_in5 : ∀ w ∈ u_ws RX5 TX5 18, w ∈ wsX5_strike := by decide +kernel
set_option maxRecDepth 100000 in
theorem k_X5_strike_f7 : Cond.fieldLink RX5 7 "FlexiblePolicyModel" "months" "[I" ∈ wsX5_strike := by decide +kernel
theorem nd_X5_strike : yX5_strike.cls = RX5 ∧ yX5_strike.cls ≠ "java/lang/invoke/MethodHandle" ∧ yX5_strike.cls ≠ "java/lang/invoke/VarHandle" ∧ (parseMethodDescriptor yX5_strike.desc).map (fun d => d.parameters.length) = some 1 := by decide +kernel
abbrev rm_X5_strike : Room := { frames := 2, cells := 0, slots := 0, locals := 43 }
set_option maxHeartbeats 4000000 in
set_option maxRecDepth 100000 in
theorem c_X5_strike (l : Launch) (G : GG) (h : Nat → Nat) (ka : Int32) (kb : Int32) (kc : Int32) (kd : Int32) (v : S7) (t : Int32) (mo : (Nat → Int32)) (sk : (Nat → Bool)) (x : Int32) (n : Nat) (hn : n ≤ 60) : CI l G yX5_strike wsX5_strike rm_X5_strike [.ref (h 18), .int x] [cM h (ka, kb, kc, kd, (nI n)) v t, aI G (h 19) 60 mo, aZ G (h 22) 60 sk] ((F_X5_strike mo sk x n).1) [cM h (ka, kb, kc, kd, (nI n)) v ((F_X5_strike mo sk x n).2.1), aI G (h 19) 60 mo, aZ G (h 22) 60 ((F_X5_strike mo sk x n).2.2)] := by
  refine CI_of (own := RX5) (by decide +kernel) rfl rfl (Nat.le_of_ble_eq_true rfl) ?_
  intro pP eE sS mM args below meth cC A S hK hr hlk hmn hW ls hl
  have hx := S.1
  have hb := S.2.1
  have hl : lv_has ls 2 [(0, .ref (h 18)), (1, .int x)] := hl
  have hW : Wd G A sS.heap [cM h (ka, kb, kc, kd, (nI n)) v t, aI G (h 19) 60 mo, aZ G (h 22) 60 sk] sS.heap [] := hW
  refine lv_aload_n hx hb dX5_strike_0 rfl (lv_at hl 0 rfl) ?_
  refine lv_iload_n hx hb dX5_strike_1 rfl (lv_at hl 1 rfl) ?_
  refine k_callVi (C := RX5) (As := [.int x]) (rest := []) (wr := [aI G (h 19) 60 mo]) (c_X5_isAct l G h ka kb kc kd v t sk x n (by omega)) S hK hW gX5_strike_X5_isAct rfl ⟨rfl, rfl⟩ nd_X5_isAct ⟨rfl, rfl⟩ (qb := 0) (ci := 5) rfl rfl [0, 2] [1] rfl rfl rfl rfl (by decide) rfl hl.1 rfl dX5_strike_2 ⟨Nat.zero_le _, Nat.zero_le _⟩ (fun H locs hW => ?_)
  have hW : Wd G A sS.heap [aI G (h 19) 60 mo, cM h (ka, kb, kc, kd, (nI n)) v ((F_X5_isAct sk x n).2), aZ G (h 22) 60 sk] H locs := hW
  refine lv_if_ne (tgt := 10) hx hb dX5_strike_5 (by decide) (fun c_1 => ?_) (fun c_1 => ?_)
  ·
    refine lv_aload_n hx hb dX5_strike_10 rfl (lv_at hl 0 rfl) ?_
    refine k_get (C := RX5) (T := TX5) (N := 18) (ci := 5) (v := .ref (h 22)) S hK hW k_X5_strike_in5 1 8 rfl rfl (by decide) k_X5_strike_f19 rfl dX5_strike_11 ?_
    refine lv_iload_n hx hb dX5_strike_14 rfl (lv_at hl 1 rfl) ?_
    refine lv_iconst (v := 1) hx hb dX5_strike_15 (by decide) ?_
    refine k_zast (n := 60) (ws' := [aI G (h 19) 60 mo, cM h (ka, kb, kc, kd, (nI n)) v ((F_X5_isAct sk x n).2), aZ G (h 22) 60 (updB sk x.toNatClampNeg true)]) S hK hW 2 rfl (i := x) (b := true) rfl (isAct_in hn c_1) rfl dX5_strike_16 (fun H locs hW => ?_)
    refine lv_aload_n hx hb dX5_strike_17 rfl (lv_at hl 0 rfl) ?_
    refine k_get (C := RX5) (T := TX5) (N := 18) (ci := 5) (v := .ref (h 19)) S hK hW k_X5_strike_in5 1 5 rfl rfl (by decide) k_X5_strike_f7 rfl dX5_strike_18 ?_
    refine lv_iload_n hx hb dX5_strike_21 rfl (lv_at hl 1 rfl) ?_
    refine k_iald (n := 60) S hK hW 0 rfl (i := x) (isAct_in hn c_1) dX5_strike_22 ?_
    have eF : (F_X5_strike mo sk x n) = ((mo x.toNatClampNeg), (F_X5_isAct sk x n).2, (updB sk x.toNatClampNeg true)) := by
      unfold F_X5_strike
      rw [if_neg c_1]
    exact k_iret (wf := [cM h (ka, kb, kc, kd, (nI n)) v ((F_X5_isAct sk x n).2), aI G (h 19) 60 mo, aZ G (h 22) 60 (updB sk x.toNatClampNeg true)]) S hr hlk hK hW [1, 0, 2] rfl rfl (congrArg (fun (z : Int32 × Int32 × (Nat → Bool)) => [cM h (ka, kb, kc, kd, (nI n)) v z.2.1, aI G (h 19) 60 mo, aZ G (h 22) 60 z.2.2]) eF).symm (congrArg (fun (z : Int32 × Int32 × (Nat → Bool)) => z.1) eF).symm dX5_strike_23
  ·
    refine lv_iconst (v := 0) hx hb dX5_strike_8 (by decide) ?_
    have eF : (F_X5_strike mo sk x n) = (0, (F_X5_isAct sk x n).2, sk) := by
      unfold F_X5_strike
      rw [if_pos c_1]
    exact k_iret (wf := [cM h (ka, kb, kc, kd, (nI n)) v ((F_X5_isAct sk x n).2), aI G (h 19) 60 mo, aZ G (h 22) 60 sk]) S hr hlk hK hW [1, 0, 2] rfl rfl (congrArg (fun (z : Int32 × Int32 × (Nat → Bool)) => [cM h (ka, kb, kc, kd, (nI n)) v z.2.1, aI G (h 19) 60 mo, aZ G (h 22) 60 z.2.2]) eF).symm (congrArg (fun (z : Int32 × Int32 × (Nat → Bool)) => z.1) eF).symm dX5_strike_9
def F_X5_isDone (ka : Int32) (kb : Int32) (kc : Int32) (v : S7) (mo : (Nat → Int32)) (ki : (Nat → Int32)) (am : (Nat → Int32)) (sk : (Nat → Bool)) (dn : (Nat → Bool)) (x : Int32) (np : Nat) (n : Nat) : Bool × S7 × Int32 × (Nat → Bool) :=
  if bI ((F_X5_isAct sk x n).1) = 0 then (false, v, (F_X5_isAct sk x n).2, dn)
  else ((((F_X5_goNow ka kb kc mo ki am sk dn np n).2) x.toNatClampNeg), ((F_X5_goNow ka kb kc mo ki am sk dn np n).1), (F_X5_isAct sk x n).2, (F_X5_goNow ka kb kc mo ki am sk dn np n).2)
set_option maxRecDepth 100000 in
theorem k_X5_isDone_f23 : Cond.fieldLink RX5 23 "FlexiblePolicyModel" "isDone" "[Z" ∈ wsX5_isDone := by decide +kernel
set_option maxRecDepth 100000 in
theorem k_X5_isDone_in5 : ∀ w ∈ u_ws RX5 TX5 18, w ∈ wsX5_isDone := by decide +kernel
theorem nd_X5_isDone : yX5_isDone.cls = RX5 ∧ yX5_isDone.cls ≠ "java/lang/invoke/MethodHandle" ∧ yX5_isDone.cls ≠ "java/lang/invoke/VarHandle" ∧ (parseMethodDescriptor yX5_isDone.desc).map (fun d => d.parameters.length) = some 1 := by decide +kernel
abbrev rm_X5_isDone : Room := { frames := 6, cells := 0, slots := 0, locals := 136 }
set_option maxHeartbeats 4000000 in
set_option maxRecDepth 100000 in
theorem c_X5_isDone (l : Launch) (G : GG) (h : Nat → Nat) (ka : Int32) (kb : Int32) (kc : Int32) (v : S7) (t : Int32) (mo : (Nat → Int32)) (ki : (Nat → Int32)) (am : (Nat → Int32)) (sk : (Nat → Bool)) (dn : (Nat → Bool)) (x : Int32) (np : Nat) (n : Nat) (hn : n ≤ 60) (hp : np ≤ 120) : CI l G yX5_isDone wsX5_isDone rm_X5_isDone [.ref (h 18), .int x] [cM h (ka, kb, kc, (nI np), (nI n)) v t, aI G (h 19) 60 mo, aI G (h 20) 60 ki, aI G (h 21) 60 am, aZ G (h 22) 60 sk, aZ G (h 23) 60 dn] (bI ((F_X5_isDone ka kb kc v mo ki am sk dn x np n).1)) [cM h (ka, kb, kc, (nI np), (nI n)) ((F_X5_isDone ka kb kc v mo ki am sk dn x np n).2.1) ((F_X5_isDone ka kb kc v mo ki am sk dn x np n).2.2.1), aI G (h 19) 60 mo, aI G (h 20) 60 ki, aI G (h 21) 60 am, aZ G (h 22) 60 sk, aZ G (h 23) 60 ((F_X5_isDone ka kb kc v mo ki am sk dn x np n).2.2.2)] := by
  refine CI_of (own := RX5) (by decide +kernel) rfl rfl (Nat.le_of_ble_eq_true rfl) ?_
  intro pP eE sS mM args below meth cC A S hK hr hlk hmn hW ls hl
  have hx := S.1
  have hb := S.2.1
  have hl : lv_has ls 2 [(0, .ref (h 18)), (1, .int x)] := hl
  have hW : Wd G A sS.heap [cM h (ka, kb, kc, (nI np), (nI n)) v t, aI G (h 19) 60 mo, aI G (h 20) 60 ki, aI G (h 21) 60 am, aZ G (h 22) 60 sk, aZ G (h 23) 60 dn] sS.heap [] := hW
  refine lv_aload_n hx hb dX5_isDone_0 rfl (lv_at hl 0 rfl) ?_
  refine lv_iload_n hx hb dX5_isDone_1 rfl (lv_at hl 1 rfl) ?_
  refine k_callVi (C := RX5) (As := [.int x]) (rest := []) (wr := [aI G (h 19) 60 mo, aI G (h 20) 60 ki, aI G (h 21) 60 am, aZ G (h 23) 60 dn]) (c_X5_isAct l G h ka kb kc (nI np) v t sk x n (by omega)) S hK hW gX5_isDone_X5_isAct rfl ⟨rfl, rfl⟩ nd_X5_isAct ⟨rfl, rfl⟩ (qb := 0) (ci := 5) rfl rfl [0, 4] [1, 2, 3, 5] rfl rfl rfl rfl (by decide) rfl hl.1 rfl dX5_isDone_2 ⟨Nat.zero_le _, Nat.zero_le _⟩ (fun H locs hW => ?_)
  have hW : Wd G A sS.heap [aI G (h 19) 60 mo, aI G (h 20) 60 ki, aI G (h 21) 60 am, aZ G (h 23) 60 dn, cM h (ka, kb, kc, (nI np), (nI n)) v ((F_X5_isAct sk x n).2), aZ G (h 22) 60 sk] H locs := hW
  refine lv_if_ne (tgt := 10) hx hb dX5_isDone_5 (by decide) (fun c_1 => ?_) (fun c_1 => ?_)
  ·
    refine lv_aload_n hx hb dX5_isDone_10 rfl (lv_at hl 0 rfl) ?_
    refine k_callVv (C := RX5) (As := []) (rest := []) (wr := []) (c_X5_goNow l G h ka kb kc v ((F_X5_isAct sk x n).2) mo ki am sk dn np n (by omega) (by omega)) S hK hW gX5_isDone_X5_goNow rfl ⟨rfl, rfl⟩ nd_X5_goNow ⟨rfl, rfl⟩ (qb := 4) (ci := 5) rfl rfl [4, 0, 1, 2, 5, 3] [] rfl rfl rfl rfl (by decide) rfl hl.1 rfl dX5_isDone_11 ⟨Nat.zero_le _, Nat.zero_le _⟩ (fun H locs hW => ?_)
    have hW : Wd G A sS.heap [cM h (ka, kb, kc, (nI np), (nI n)) ((F_X5_goNow ka kb kc mo ki am sk dn np n).1) ((F_X5_isAct sk x n).2), aI G (h 19) 60 mo, aI G (h 20) 60 ki, aI G (h 21) 60 am, aZ G (h 22) 60 sk, aZ G (h 23) 60 ((F_X5_goNow ka kb kc mo ki am sk dn np n).2)] H locs := hW
    refine lv_aload_n hx hb dX5_isDone_14 rfl (lv_at hl 0 rfl) ?_
    refine k_get (C := RX5) (T := TX5) (N := 18) (ci := 5) (v := .ref (h 23)) S hK hW k_X5_isDone_in5 0 9 rfl rfl (by decide) k_X5_isDone_f23 rfl dX5_isDone_15 ?_
    refine lv_iload_n hx hb dX5_isDone_18 rfl (lv_at hl 1 rfl) ?_
    refine k_zald (n := 60) S hK hW 5 rfl (i := x) (isAct_in hn c_1) dX5_isDone_19 ?_
    have eF : (F_X5_isDone ka kb kc v mo ki am sk dn x np n) = ((((F_X5_goNow ka kb kc mo ki am sk dn np n).2) x.toNatClampNeg), ((F_X5_goNow ka kb kc mo ki am sk dn np n).1), (F_X5_isAct sk x n).2, (F_X5_goNow ka kb kc mo ki am sk dn np n).2) := by
      unfold F_X5_isDone
      rw [if_neg c_1]
    exact k_zret (wf := [cM h (ka, kb, kc, (nI np), (nI n)) ((F_X5_goNow ka kb kc mo ki am sk dn np n).1) ((F_X5_isAct sk x n).2), aI G (h 19) 60 mo, aI G (h 20) 60 ki, aI G (h 21) 60 am, aZ G (h 22) 60 sk, aZ G (h 23) 60 ((F_X5_goNow ka kb kc mo ki am sk dn np n).2)]) S hr hlk hK hW [0, 1, 2, 3, 4, 5] rfl rfl (congrArg (fun (z : Bool × S7 × Int32 × (Nat → Bool)) => [cM h (ka, kb, kc, (nI np), (nI n)) z.2.1 z.2.2.1, aI G (h 19) 60 mo, aI G (h 20) 60 ki, aI G (h 21) 60 am, aZ G (h 22) 60 sk, aZ G (h 23) 60 z.2.2.2]) eF).symm (congrArg (fun (z : Bool × S7 × Int32 × (Nat → Bool)) => bI z.1) eF).symm dX5_isDone_20
  ·
    refine lv_iconst (v := 0) hx hb dX5_isDone_8 (by decide) ?_
    have eF : (F_X5_isDone ka kb kc v mo ki am sk dn x np n) = (false, v, (F_X5_isAct sk x n).2, dn) := by
      unfold F_X5_isDone
      rw [if_pos c_1]
    exact k_zret (wf := [cM h (ka, kb, kc, (nI np), (nI n)) v ((F_X5_isAct sk x n).2), aI G (h 19) 60 mo, aI G (h 20) 60 ki, aI G (h 21) 60 am, aZ G (h 22) 60 sk, aZ G (h 23) 60 dn]) S hr hlk hK hW [4, 0, 1, 2, 5, 3] rfl rfl (congrArg (fun (z : Bool × S7 × Int32 × (Nat → Bool)) => [cM h (ka, kb, kc, (nI np), (nI n)) z.2.1 z.2.2.1, aI G (h 19) 60 mo, aI G (h 20) 60 ki, aI G (h 21) 60 am, aZ G (h 22) 60 sk, aZ G (h 23) 60 z.2.2.2]) eF).symm (congrArg (fun (z : Bool × S7 × Int32 × (Nat → Bool)) => bI z.1) eF).symm dX5_isDone_9
