def Lp_X4_performAll (mo : (Nat → Int32)) (ki : (Nat → Int32)) (am : (Nat → Int32)) (sk : (Nat → Bool)) (q : S3) (m : Int32) (n : Nat) : Nat → Nat → S7 → S7
  | 0, i, v9 => v9
  | d + 1, i, v9 => if bI (F_X0_standsIn (nI n) mo sk (nI i) m) = 0 then Lp_X4_performAll mo ki am sk q m n d (i + 1) v9
  else Lp_X4_performAll mo ki am sk q m n d (i + 1) ((F_X4_perform (nI n) mo ki am q v9 (nI i)).2)
def F_X4_performAll (mo : (Nat → Int32)) (ki : (Nat → Int32)) (am : (Nat → Int32)) (sk : (Nat → Bool)) (q : S3) (v : S7) (m : Int32) (n : Nat) : S7 :=
  Lp_X4_performAll mo ki am sk q m n n 0 v
set_option maxRecDepth 100000 in
theorem k_X4_performAll_f19 : Cond.fieldLink RX4 19 "FlexiblePolicy" "book" "LFlexiblePolicy$ActBook;" ∈ wsX4_performAll := by decide +kernel
set_option maxRecDepth 100000 in
theorem k_X4_performAll_in4 : ∀ w ∈ u_ws RX4 TX4 6, w ∈ wsX4_performAll := by decide +kernel
set_option maxRecDepth 100000 in
theorem k_X4_performAll_f118 : Cond.fieldLink RX4 118 "FlexiblePolicy$ActBook" "count" "I" ∈ wsX4_performAll := by decide +kernel
set_option maxRecDepth 100000 in
theorem k_X4_performAll_in0 : ∀ w ∈ u_ws RX0 TX0 6, w ∈ wsX4_performAll := by decide +kernel
theorem nd_X4_performAll : yX4_performAll.cls = RX4 ∧ yX4_performAll.cls ≠ "java/lang/invoke/MethodHandle" ∧ yX4_performAll.cls ≠ "java/lang/invoke/VarHandle" ∧ (parseMethodDescriptor yX4_performAll.desc).map (fun d => d.parameters.length) = some 2 := by decide +kernel
abbrev rm_X4_performAll : Room := { frames := 4, cells := 0, slots := 0, locals := 88 }
set_option maxHeartbeats 4000000 in
set_option maxRecDepth 100000 in
theorem c_X4_performAll (l : Launch) (G : GG) (h : Nat → Nat) (a : Nat) (p : Int32) (mo : (Nat → Int32)) (ki : (Nat → Int32)) (am : (Nat → Int32)) (sk : (Nat → Bool)) (q : S3) (v : S7) (m : Int32) (n : Nat) (hn : n ≤ 60) : CV l G yX4_performAll wsX4_performAll rm_X4_performAll [.ref (h 0), .int m, .ref a] [cF h p, cB h (nI n), aI G (h 6) 60 mo, aI G (h 7) 60 ki, aI G (h 8) 60 am, aZ G (h 9) 60 sk, cP (h 1) q, cS a v] [cF h p, cB h (nI n), aI G (h 6) 60 mo, aI G (h 7) 60 ki, aI G (h 8) 60 am, aZ G (h 9) 60 sk, cP (h 1) q, cS a (F_X4_performAll mo ki am sk q v m n)] := by
  refine CV_of (own := RX4) (by decide +kernel) rfl rfl (Nat.le_of_ble_eq_true rfl) ?_
  intro pP eE sS mM args below meth cC A S hK hr hlk hmn hW ls hl
  have hx := S.1
  have hb := S.2.1
  have hl : lv_has ls 4 [(0, .ref (h 0)), (1, .int m), (2, .ref a)] := hl
  have hW : Wd G A sS.heap [cF h p, cB h (nI n), aI G (h 6) 60 mo, aI G (h 7) 60 ki, aI G (h 8) 60 am, aZ G (h 9) 60 sk, cP (h 1) q, cS a v] sS.heap [] := hW
  have key : ∀ (d i : Nat) (v9 : S7), i + d = n → Lp_X4_performAll mo ki am sk q m n d i v9 = (F_X4_performAll mo ki am sk q v m n) → ∀ (H : Heap) (locs : List Loc) (ls : Array Slot), Wd G A sS.heap [cF h p, cB h (nI n), aI G (h 6) 60 mo, aI G (h 7) 60 ki, aI G (h 8) 60 am, aZ G (h 9) 60 sk, cP (h 1) q, cS a v9] H locs → lv_has ls 4 [(3, .int (nI i)), (0, .ref (h 0)), (1, .int m), (2, .ref a)] → W pP l eE rm_X4_performAll sS mM args below meth cC H locs 0 0 (MQ below (QV G A [cF h p, cB h (nI n), aI G (h 6) 60 mo, aI G (h 7) 60 ki, aI G (h 8) 60 am, aZ G (h 9) 60 sk, cP (h 1) q, cS a (F_X4_performAll mo ki am sk q v m n)]) args sS 0 0 A) (F0 mM 2 ls []) := by
    intro d
    induction d with
    | zero =>
      intro i v9 hi hF H locs ls hW hl
      have hc : nI n ≤ nI i := nI_le (by omega) (by omega)
      refine lv_iload_n hx hb dX4_performAll_2 rfl (lv_at hl 0 rfl) ?_
      refine lv_aload_n hx hb dX4_performAll_3 rfl (lv_at hl 1 rfl) ?_
      refine k_get (C := RX4) (T := TX4) (N := 6) (ci := 4) (v := .ref (h 2)) S hK hW k_X4_performAll_in4 0 1 rfl rfl (by decide) k_X4_performAll_f19 rfl dX4_performAll_4 ?_
      refine k_get (C := RX0) (T := TX0) (N := 6) (ci := 0) (v := .int (nI n)) S hK hW k_X4_performAll_in0 1 0 rfl rfl (by decide) k_X4_performAll_f118 rfl dX4_performAll_7 ?_
      refine lv_icmp_ge (tgt := 38) hx hb dX4_performAll_10 (by decide) (fun c_1 => ?_) (fun c_1 => ?_)
      ·
        have eF : (F_X4_performAll mo ki am sk q v m n) = v9 := hF.symm.trans (by
          rw [Lp_X4_performAll])
        exact k_vret (wf := [cF h p, cB h (nI n), aI G (h 6) 60 mo, aI G (h 7) 60 ki, aI G (h 8) 60 am, aZ G (h 9) 60 sk, cP (h 1) q, cS a v9]) S hr hlk hK hW [0, 1, 2, 3, 4, 5, 6, 7] rfl rfl (congrArg (fun (z : S7) => [cF h p, cB h (nI n), aI G (h 6) 60 mo, aI G (h 7) 60 ki, aI G (h 8) 60 am, aZ G (h 9) 60 sk, cP (h 1) q, cS a z]) eF).symm dX4_performAll_38
      ·
        exact absurd hc c_1
    | succ d ih =>
      intro i v9 hi hF H locs ls hW hl
      have hc : ¬ nI n ≤ nI i := nI_ge (by omega) (by omega)
      refine lv_iload_n hx hb dX4_performAll_2 rfl (lv_at hl 0 rfl) ?_
      refine lv_aload_n hx hb dX4_performAll_3 rfl (lv_at hl 1 rfl) ?_
      refine k_get (C := RX4) (T := TX4) (N := 6) (ci := 4) (v := .ref (h 2)) S hK hW k_X4_performAll_in4 0 1 rfl rfl (by decide) k_X4_performAll_f19 rfl dX4_performAll_4 ?_
      refine k_get (C := RX0) (T := TX0) (N := 6) (ci := 0) (v := .int (nI n)) S hK hW k_X4_performAll_in0 1 0 rfl rfl (by decide) k_X4_performAll_f118 rfl dX4_performAll_7 ?_
      refine lv_icmp_ge (tgt := 38) hx hb dX4_performAll_10 (by decide) (fun c_2 => ?_) (fun c_2 => ?_)
      ·
        exact absurd c_2 hc
      ·
        refine lv_aload_n hx hb dX4_performAll_13 rfl (lv_at hl 1 rfl) ?_
        refine k_get (C := RX4) (T := TX4) (N := 6) (ci := 4) (v := .ref (h 2)) S hK hW k_X4_performAll_in4 0 1 rfl rfl (by decide) k_X4_performAll_f19 rfl dX4_performAll_14 ?_
        refine lv_iload_n hx hb dX4_performAll_17 rfl (lv_at hl 0 rfl) ?_
        refine lv_iload_n hx hb dX4_performAll_18 rfl (lv_at hl 2 rfl) ?_
        refine k_callVi (C := RX0) (As := [.int (nI i), .int m]) (rest := []) (wr := [cF h p, aI G (h 7) 60 ki, aI G (h 8) 60 am, cP (h 1) q, cS a v9]) (c_X0_standsIn l G h (nI n) mo sk (nI i) m) S hK hW gX4_performAll_X0_standsIn rfl ⟨rfl, rfl⟩ nd_X0_standsIn ⟨rfl, rfl⟩ (qb := 1) (ci := 0) rfl rfl [1, 2, 5] [0, 3, 4, 6, 7] rfl rfl rfl rfl (by decide) rfl hl.1 rfl dX4_performAll_19 ⟨Nat.zero_le _, Nat.zero_le _⟩ (fun H locs hW => ?_)
        have hW : Wd G A sS.heap [cF h p, aI G (h 7) 60 ki, aI G (h 8) 60 am, cP (h 1) q, cS a v9, cB h (nI n), aI G (h 6) 60 mo, aZ G (h 9) 60 sk] H locs := hW
        refine lv_if_eq (tgt := 32) hx hb dX4_performAll_22 (by decide) (fun c_3 => ?_) (fun c_3 => ?_)
        ·
          refine lv_iinc (v := (nI i + 1)) (lv' := [(3, .int (nI i + 1)), (0, .ref (h 0)), (1, .int m), (2, .ref a)]) hx hb dX4_performAll_32 hl (k := 0) rfl rfl (by decide) rfl (fun ls hl => ?_)
          refine lv_goto (tgt := 2) hx hb dX4_performAll_35 (by decide) ?_
          have eS : Lp_X4_performAll mo ki am sk q m n (d + 1) i v9 = Lp_X4_performAll mo ki am sk q m n d (i + 1) v9 := by
            rw [Lp_X4_performAll, if_pos c_3]
          have hl : lv_has ls 4 [(3, .int (nI (i + 1))), (0, .ref (h 0)), (1, .int m), (2, .ref a)] := by
            first | exact lv_sub hl [0, 1, 2, 3] rfl | (rw [← nI_1]; exact lv_sub hl [0, 1, 2, 3] rfl)
          exact ih (i + 1) v9 (by omega) (eS.symm.trans hF) _ _ _ (hW.re [0, 5, 6, 1, 2, 7, 3, 4] rfl rfl) hl
        ·
          refine lv_aload_n hx hb dX4_performAll_25 rfl (lv_at hl 1 rfl) ?_
          refine lv_iload_n hx hb dX4_performAll_26 rfl (lv_at hl 0 rfl) ?_
          refine lv_aload_n hx hb dX4_performAll_27 rfl (lv_at hl 3 rfl) ?_
          refine k_callVi (C := RX4) (As := [.int (nI i), .ref a]) (rest := []) (wr := [aZ G (h 9) 60 sk]) (c_X4_perform l G h a p (nI n) mo ki am q v9 (nI i)) S hK hW gX4_performAll_X4_perform rfl ⟨rfl, rfl⟩ nd_X4_perform ⟨rfl, rfl⟩ (qb := 0) (ci := 4) rfl rfl [0, 5, 6, 1, 2, 3, 4] [7] rfl rfl rfl rfl (by decide) rfl hl.1 rfl dX4_performAll_28 ⟨Nat.zero_le _, Nat.zero_le _⟩ (fun H locs hW => ?_)
          have hW : Wd G A sS.heap [aZ G (h 9) 60 sk, cF h p, cB h (nI n), aI G (h 6) 60 mo, aI G (h 7) 60 ki, aI G (h 8) 60 am, cP (h 1) q, cS a ((F_X4_perform (nI n) mo ki am q v9 (nI i)).2)] H locs := hW
          refine lv_pop hx hb dX4_performAll_31 rfl ?_
          refine lv_iinc (v := (nI i + 1)) (lv' := [(3, .int (nI i + 1)), (0, .ref (h 0)), (1, .int m), (2, .ref a)]) hx hb dX4_performAll_32 hl (k := 0) rfl rfl (by decide) rfl (fun ls hl => ?_)
          refine lv_goto (tgt := 2) hx hb dX4_performAll_35 (by decide) ?_
          have eS : Lp_X4_performAll mo ki am sk q m n (d + 1) i v9 = Lp_X4_performAll mo ki am sk q m n d (i + 1) ((F_X4_perform (nI n) mo ki am q v9 (nI i)).2) := by
            rw [Lp_X4_performAll, if_neg c_3]
          have hl : lv_has ls 4 [(3, .int (nI (i + 1))), (0, .ref (h 0)), (1, .int m), (2, .ref a)] := by
            first | exact lv_sub hl [0, 1, 2, 3] rfl | (rw [← nI_1]; exact lv_sub hl [0, 1, 2, 3] rfl)
          exact ih (i + 1) ((F_X4_perform (nI n) mo ki am q v9 (nI i)).2) (by omega) (eS.symm.trans hF) _ _ _ (hW.re [1, 2, 3, 4, 5, 0, 6, 7] rfl rfl) hl
  refine lv_iconst (v := 0) hx hb dX4_performAll_0 (by decide) ?_
  refine lv_istore_n (lv' := [(3, .int 0), (0, .ref (h 0)), (1, .int m), (2, .ref a)]) hx hb dX4_performAll_1 rfl hl (by decide) rfl (fun ls hl => ?_)
  have eF : (F_X4_performAll mo ki am sk q v m n) = Lp_X4_performAll mo ki am sk q m n n 0 v := by
    rfl
  exact key n 0 v (by omega) eF.symm _ _ _ (hW.re [0, 1, 2, 3, 4, 5, 6, 7] rfl rfl) (lv_sub hl [0, 1, 2, 3] (by rw [nI_0] <;> rfl))
def Lp_X4_performAndNote (mo : (Nat → Int32)) (ki : (Nat → Int32)) (am : (Nat → Int32)) (sk : (Nat → Bool)) (q : S3) (m : Int32) (n : Nat) : Nat → Nat → S7 → (Nat → Bool) → (Nat → Bool) × S7
  | 0, i, v9, dn9 => (dn9, v9)
  | d + 1, i, v9, dn9 => if bI (F_X0_standsIn (nI n) mo sk (nI i) m) = 0 then Lp_X4_performAndNote mo ki am sk q m n d (i + 1) v9 dn9
  else Lp_X4_performAndNote mo ki am sk q m n d (i + 1) ((F_X4_perform (nI n) mo ki am q v9 (nI i)).2) (F_X0_noteDone (nI n) dn9 (nI i) ((F_X4_perform (nI n) mo ki am q v9 (nI i)).1))
def F_X4_performAndNote (mo : (Nat → Int32)) (ki : (Nat → Int32)) (am : (Nat → Int32)) (sk : (Nat → Bool)) (dn : (Nat → Bool)) (q : S3) (v : S7) (m : Int32) (n : Nat) : (Nat → Bool) × S7 :=
  Lp_X4_performAndNote mo ki am sk q m n n 0 v dn
set_option maxRecDepth 100000 in
theorem k_X4_performAndNote_f19 : Cond.fieldLink RX4 19 "FlexiblePolicy" "book" "LFlexiblePolicy$ActBook;" ∈ wsX4_performAndNote := by decide +kernel
set_option maxRecDepth 100000 in
theorem k_X4_performAndNote_in4 : ∀ w ∈ u_ws RX4 TX4 6, w ∈ wsX4_performAndNote := by decide +kernel
set_option maxRecDepth 100000 in
theorem k_X4_performAndNote_f118 : Cond.fieldLink RX4 118 "FlexiblePolicy$ActBook" "count" "I" ∈ wsX4_performAndNote := by decide +kernel
set_option maxRecDepth 100000 in
theorem k_X4_performAndNote_in0 : ∀ w ∈ u_ws RX0 TX0 6, w ∈ wsX4_performAndNote := by decide +kernel
set_option maxRecDepth 100000 in
theorem k_X4_performAndNote_f33 : Cond.fieldLink RX4 33 "FlexiblePolicy" "now" "LFlexiblePolicy$Standing;" ∈ wsX4_performAndNote := by decide +kernel
theorem nd_X4_performAndNote : yX4_performAndNote.cls = RX4 ∧ yX4_performAndNote.cls ≠ "java/lang/invoke/MethodHandle" ∧ yX4_performAndNote.cls ≠ "java/lang/invoke/VarHandle" ∧ (parseMethodDescriptor yX4_performAndNote.desc).map (fun d => d.parameters.length) = some 1 := by decide +kernel
abbrev rm_X4_performAndNote : Room := { frames := 4, cells := 0, slots := 0, locals := 88 }
set_option maxHeartbeats 4000000 in
set_option maxRecDepth 100000 in
theorem c_X4_performAndNote (l : Launch) (G : GG) (h : Nat → Nat) (p : Int32) (mo : (Nat → Int32)) (ki : (Nat → Int32)) (am : (Nat → Int32)) (sk : (Nat → Bool)) (dn : (Nat → Bool)) (q : S3) (v : S7) (m : Int32) (n : Nat) (hn : n ≤ 60) : CV l G yX4_performAndNote wsX4_performAndNote rm_X4_performAndNote [.ref (h 0), .int m] [cF h p, cB h (nI n), aI G (h 6) 60 mo, aI G (h 7) 60 ki, aI G (h 8) 60 am, aZ G (h 9) 60 sk, aZ G (h 10) 60 dn, cP (h 1) q, cS (h 4) v] [cF h p, cB h (nI n), aI G (h 6) 60 mo, aI G (h 7) 60 ki, aI G (h 8) 60 am, aZ G (h 9) 60 sk, aZ G (h 10) 60 ((F_X4_performAndNote mo ki am sk dn q v m n).1), cP (h 1) q, cS (h 4) ((F_X4_performAndNote mo ki am sk dn q v m n).2)] := by
  refine CV_of (own := RX4) (by decide +kernel) rfl rfl (Nat.le_of_ble_eq_true rfl) ?_
  intro pP eE sS mM args below meth cC A S hK hr hlk hmn hW ls hl
  have hx := S.1
  have hb := S.2.1
  have hl : lv_has ls 3 [(0, .ref (h 0)), (1, .int m)] := hl
  have hW : Wd G A sS.heap [cF h p, cB h (nI n), aI G (h 6) 60 mo, aI G (h 7) 60 ki, aI G (h 8) 60 am, aZ G (h 9) 60 sk, aZ G (h 10) 60 dn, cP (h 1) q, cS (h 4) v] sS.heap [] := hW
  have key : ∀ (d i : Nat) (v9 : S7) (dn9 : (Nat → Bool)), i + d = n → Lp_X4_performAndNote mo ki am sk q m n d i v9 dn9 = (F_X4_performAndNote mo ki am sk dn q v m n) → ∀ (H : Heap) (locs : List Loc) (ls : Array Slot), Wd G A sS.heap [cF h p, cB h (nI n), aI G (h 6) 60 mo, aI G (h 7) 60 ki, aI G (h 8) 60 am, aZ G (h 9) 60 sk, aZ G (h 10) 60 dn9, cP (h 1) q, cS (h 4) v9] H locs → lv_has ls 3 [(2, .int (nI i)), (0, .ref (h 0)), (1, .int m)] → W pP l eE rm_X4_performAndNote sS mM args below meth cC H locs 0 0 (MQ below (QV G A [cF h p, cB h (nI n), aI G (h 6) 60 mo, aI G (h 7) 60 ki, aI G (h 8) 60 am, aZ G (h 9) 60 sk, aZ G (h 10) 60 ((F_X4_performAndNote mo ki am sk dn q v m n).1), cP (h 1) q, cS (h 4) ((F_X4_performAndNote mo ki am sk dn q v m n).2)]) args sS 0 0 A) (F0 mM 2 ls []) := by
    intro d
    induction d with
    | zero =>
      intro i v9 dn9 hi hF H locs ls hW hl
      have hc : nI n ≤ nI i := nI_le (by omega) (by omega)
      refine lv_iload_n hx hb dX4_performAndNote_2 rfl (lv_at hl 0 rfl) ?_
      refine lv_aload_n hx hb dX4_performAndNote_3 rfl (lv_at hl 1 rfl) ?_
      refine k_get (C := RX4) (T := TX4) (N := 6) (ci := 4) (v := .ref (h 2)) S hK hW k_X4_performAndNote_in4 0 1 rfl rfl (by decide) k_X4_performAndNote_f19 rfl dX4_performAndNote_4 ?_
      refine k_get (C := RX0) (T := TX0) (N := 6) (ci := 0) (v := .int (nI n)) S hK hW k_X4_performAndNote_in0 1 0 rfl rfl (by decide) k_X4_performAndNote_f118 rfl dX4_performAndNote_7 ?_
      refine lv_icmp_ge (tgt := 48) hx hb dX4_performAndNote_10 (by decide) (fun c_1 => ?_) (fun c_1 => ?_)
      ·
        have eF : (F_X4_performAndNote mo ki am sk dn q v m n) = (dn9, v9) := hF.symm.trans (by
          rw [Lp_X4_performAndNote])
        exact k_vret (wf := [cF h p, cB h (nI n), aI G (h 6) 60 mo, aI G (h 7) 60 ki, aI G (h 8) 60 am, aZ G (h 9) 60 sk, aZ G (h 10) 60 dn9, cP (h 1) q, cS (h 4) v9]) S hr hlk hK hW [0, 1, 2, 3, 4, 5, 6, 7, 8] rfl rfl (congrArg (fun (z : (Nat → Bool) × S7) => [cF h p, cB h (nI n), aI G (h 6) 60 mo, aI G (h 7) 60 ki, aI G (h 8) 60 am, aZ G (h 9) 60 sk, aZ G (h 10) 60 z.1, cP (h 1) q, cS (h 4) z.2]) eF).symm dX4_performAndNote_48
      ·
        exact absurd hc c_1
    | succ d ih =>
      intro i v9 dn9 hi hF H locs ls hW hl
      have hc : ¬ nI n ≤ nI i := nI_ge (by omega) (by omega)
      refine lv_iload_n hx hb dX4_performAndNote_2 rfl (lv_at hl 0 rfl) ?_
      refine lv_aload_n hx hb dX4_performAndNote_3 rfl (lv_at hl 1 rfl) ?_
      refine k_get (C := RX4) (T := TX4) (N := 6) (ci := 4) (v := .ref (h 2)) S hK hW k_X4_performAndNote_in4 0 1 rfl rfl (by decide) k_X4_performAndNote_f19 rfl dX4_performAndNote_4 ?_
      refine k_get (C := RX0) (T := TX0) (N := 6) (ci := 0) (v := .int (nI n)) S hK hW k_X4_performAndNote_in0 1 0 rfl rfl (by decide) k_X4_performAndNote_f118 rfl dX4_performAndNote_7 ?_
      refine lv_icmp_ge (tgt := 48) hx hb dX4_performAndNote_10 (by decide) (fun c_2 => ?_) (fun c_2 => ?_)
      ·
        exact absurd c_2 hc
      ·
        refine lv_aload_n hx hb dX4_performAndNote_13 rfl (lv_at hl 1 rfl) ?_
        refine k_get (C := RX4) (T := TX4) (N := 6) (ci := 4) (v := .ref (h 2)) S hK hW k_X4_performAndNote_in4 0 1 rfl rfl (by decide) k_X4_performAndNote_f19 rfl dX4_performAndNote_14 ?_
        refine lv_iload_n hx hb dX4_performAndNote_17 rfl (lv_at hl 0 rfl) ?_
        refine lv_iload_n hx hb dX4_performAndNote_18 rfl (lv_at hl 2 rfl) ?_
        refine k_callVi (C := RX0) (As := [.int (nI i), .int m]) (rest := []) (wr := [cF h p, aI G (h 7) 60 ki, aI G (h 8) 60 am, aZ G (h 10) 60 dn9, cP (h 1) q, cS (h 4) v9]) (c_X0_standsIn l G h (nI n) mo sk (nI i) m) S hK hW gX4_performAndNote_X0_standsIn rfl ⟨rfl, rfl⟩ nd_X0_standsIn ⟨rfl, rfl⟩ (qb := 1) (ci := 0) rfl rfl [1, 2, 5] [0, 3, 4, 6, 7, 8] rfl rfl rfl rfl (by decide) rfl hl.1 rfl dX4_performAndNote_19 ⟨Nat.zero_le _, Nat.zero_le _⟩ (fun H locs hW => ?_)
        have hW : Wd G A sS.heap [cF h p, aI G (h 7) 60 ki, aI G (h 8) 60 am, aZ G (h 10) 60 dn9, cP (h 1) q, cS (h 4) v9, cB h (nI n), aI G (h 6) 60 mo, aZ G (h 9) 60 sk] H locs := hW
        refine lv_if_eq (tgt := 42) hx hb dX4_performAndNote_22 (by decide) (fun c_3 => ?_) (fun c_3 => ?_)
        ·
          refine lv_iinc (v := (nI i + 1)) (lv' := [(2, .int (nI i + 1)), (0, .ref (h 0)), (1, .int m)]) hx hb dX4_performAndNote_42 hl (k := 0) rfl rfl (by decide) rfl (fun ls hl => ?_)
          refine lv_goto (tgt := 2) hx hb dX4_performAndNote_45 (by decide) ?_
          have eS : Lp_X4_performAndNote mo ki am sk q m n (d + 1) i v9 dn9 = Lp_X4_performAndNote mo ki am sk q m n d (i + 1) v9 dn9 := by
            rw [Lp_X4_performAndNote, if_pos c_3]
          have hl : lv_has ls 3 [(2, .int (nI (i + 1))), (0, .ref (h 0)), (1, .int m)] := by
            first | exact lv_sub hl [0, 1, 2] rfl | (rw [← nI_1]; exact lv_sub hl [0, 1, 2] rfl)
          exact ih (i + 1) v9 dn9 (by omega) (eS.symm.trans hF) _ _ _ (hW.re [0, 6, 7, 1, 2, 8, 3, 4, 5] rfl rfl) hl
        ·
          refine lv_aload_n hx hb dX4_performAndNote_25 rfl (lv_at hl 1 rfl) ?_
          refine k_get (C := RX4) (T := TX4) (N := 6) (ci := 4) (v := .ref (h 2)) S hK hW k_X4_performAndNote_in4 0 1 rfl rfl (by decide) k_X4_performAndNote_f19 rfl dX4_performAndNote_26 ?_
          refine lv_iload_n hx hb dX4_performAndNote_29 rfl (lv_at hl 0 rfl) ?_
          refine lv_aload_n hx hb dX4_performAndNote_30 rfl (lv_at hl 1 rfl) ?_
          refine lv_iload_n hx hb dX4_performAndNote_31 rfl (lv_at hl 0 rfl) ?_
          refine lv_aload_n hx hb dX4_performAndNote_32 rfl (lv_at hl 1 rfl) ?_
          refine k_get (C := RX4) (T := TX4) (N := 6) (ci := 4) (v := .ref (h 4)) S hK hW k_X4_performAndNote_in4 0 3 rfl rfl (by decide) k_X4_performAndNote_f33 rfl dX4_performAndNote_33 ?_
          refine k_callVi (C := RX4) (As := [.int (nI i), .ref (h 4)]) (rest := [.int (nI i), .ref (h 2)]) (wr := [aZ G (h 10) 60 dn9, aZ G (h 9) 60 sk]) (c_X4_perform l G h (h 4) p (nI n) mo ki am q v9 (nI i)) S hK hW gX4_performAndNote_X4_perform rfl ⟨rfl, rfl⟩ nd_X4_perform ⟨rfl, rfl⟩ (qb := 0) (ci := 4) rfl rfl [0, 6, 7, 1, 2, 4, 5] [3, 8] rfl rfl rfl rfl (by decide) rfl hl.1 rfl dX4_performAndNote_36 ⟨Nat.zero_le _, Nat.zero_le _⟩ (fun H locs hW => ?_)
          have hW : Wd G A sS.heap [aZ G (h 10) 60 dn9, aZ G (h 9) 60 sk, cF h p, cB h (nI n), aI G (h 6) 60 mo, aI G (h 7) 60 ki, aI G (h 8) 60 am, cP (h 1) q, cS (h 4) ((F_X4_perform (nI n) mo ki am q v9 (nI i)).2)] H locs := hW
          refine k_callVv (C := RX0) (As := [.int (nI i), .int (bI ((F_X4_perform (nI n) mo ki am q v9 (nI i)).1))]) (rest := []) (wr := [aZ G (h 9) 60 sk, cF h p, aI G (h 6) 60 mo, aI G (h 7) 60 ki, aI G (h 8) 60 am, cP (h 1) q, cS (h 4) ((F_X4_perform (nI n) mo ki am q v9 (nI i)).2)]) (c_X0_noteDone l G h (nI n) dn9 (nI i) ((F_X4_perform (nI n) mo ki am q v9 (nI i)).1)) S hK hW gX4_performAndNote_X0_noteDone rfl ⟨rfl, rfl⟩ nd_X0_noteDone ⟨rfl, rfl⟩ (qb := 3) (ci := 0) rfl rfl [3, 0] [1, 2, 4, 5, 6, 7, 8] rfl rfl rfl rfl (by decide) rfl hl.1 rfl dX4_performAndNote_39 ⟨Nat.zero_le _, Nat.zero_le _⟩ (fun H locs hW => ?_)
          have hW : Wd G A sS.heap [aZ G (h 9) 60 sk, cF h p, aI G (h 6) 60 mo, aI G (h 7) 60 ki, aI G (h 8) 60 am, cP (h 1) q, cS (h 4) ((F_X4_perform (nI n) mo ki am q v9 (nI i)).2), cB h (nI n), aZ G (h 10) 60 (F_X0_noteDone (nI n) dn9 (nI i) ((F_X4_perform (nI n) mo ki am q v9 (nI i)).1))] H locs := hW
          refine lv_iinc (v := (nI i + 1)) (lv' := [(2, .int (nI i + 1)), (0, .ref (h 0)), (1, .int m)]) hx hb dX4_performAndNote_42 hl (k := 0) rfl rfl (by decide) rfl (fun ls hl => ?_)
          refine lv_goto (tgt := 2) hx hb dX4_performAndNote_45 (by decide) ?_
          have eS : Lp_X4_performAndNote mo ki am sk q m n (d + 1) i v9 dn9 = Lp_X4_performAndNote mo ki am sk q m n d (i + 1) ((F_X4_perform (nI n) mo ki am q v9 (nI i)).2) (F_X0_noteDone (nI n) dn9 (nI i) ((F_X4_perform (nI n) mo ki am q v9 (nI i)).1)) := by
            rw [Lp_X4_performAndNote, if_neg c_3]
          have hl : lv_has ls 3 [(2, .int (nI (i + 1))), (0, .ref (h 0)), (1, .int m)] := by
            first | exact lv_sub hl [0, 1, 2] rfl | (rw [← nI_1]; exact lv_sub hl [0, 1, 2] rfl)
          exact ih (i + 1) ((F_X4_perform (nI n) mo ki am q v9 (nI i)).2) (F_X0_noteDone (nI n) dn9 (nI i) ((F_X4_perform (nI n) mo ki am q v9 (nI i)).1)) (by omega) (eS.symm.trans hF) _ _ _ (hW.re [1, 7, 2, 3, 4, 0, 8, 5, 6] rfl rfl) hl
  refine lv_iconst (v := 0) hx hb dX4_performAndNote_0 (by decide) ?_
  refine lv_istore_n (lv' := [(2, .int 0), (0, .ref (h 0)), (1, .int m)]) hx hb dX4_performAndNote_1 rfl hl (by decide) rfl (fun ls hl => ?_)
  have eF : (F_X4_performAndNote mo ki am sk dn q v m n) = Lp_X4_performAndNote mo ki am sk q m n n 0 v dn := by
    rfl
  exact key n 0 v dn (by omega) eF.symm _ _ _ (hW.re [0, 1, 2, 3, 4, 5, 6, 7, 8] rfl rfl) (lv_sub hl [0, 1, 2] (by rw [nI_0] <;> rfl))
