section LKIT
section LCALLS
variable {p : Program} {l : Launch} {e : Env} {R : Room} {s : State} {m : MethodId} {args : Array Value} {below : List Frame} {meth : Method} {c : Code} {H : Heap} {locs : List Loc} {cells slots : Nat} {Q : State → Prop}
variable {cc : ByteArray} {nL : Nat} {Ts : List Cond} {own : String} {pc : Nat} {ls : Array Slot} {rest : List Value} {G : GG} {A : Nat → Prop} {a : Nat} {ws : va_W} {H0 : Heap}
variable {index maxL : Nat} {y : MethodName} {bytes : ByteArray} {ret : Option FieldType} {wsy wsy' : List Cond} {rm : Room} {As st : List Value} {wc wc' wr : va_W}
theorem k_callSl {r : Int64} (hC : CL l G y wsy rm As wc r wc') (S : CallFix p m c cc nL s args Ts own) (hK : Kn G s) (hW : Wd G A H0 ws H locs) (hG : GoodIn Ts (va_wsS own index y wsy)) (hwy : wsy = Cond.code y bytes maxL ret :: wsy') (hrm : rm.cells = 0 ∧ rm.slots = 0)
    (hd : y.cls ≠ "java/lang/invoke/MethodHandle" ∧ y.cls ≠ "java/lang/invoke/VarHandle" ∧ (parseMethodDescriptor y.desc).map (fun d => d.parameters.length) = some As.length) (hR : Nat.ble (rm.frames + 1) R.frames = true ∧ Nat.ble (8 + (maxL + 11) + rm.locals) R.locals = true)
    (isC isR : List Nat) (h1 : isC.map (fun i => ws[i]?) = wc.map some) (h2 : isR.map (fun i => ws[i]?) = wr.map some) (hnC : va_nd isC = true) (hnR : va_nd isR = true) (hdis : ∀ i ∈ isR, i ∉ isC)
    (hst : st = As.reverse ++ rest) (hsl : ls.size = nL) (hro : Nat.ble ((rest.map fun v => v.category).sum) 8 = true) (hdg : decode cc pc = .ok (.invokestatic index, 3)) (hf : cells ≤ R.cells ∧ slots ≤ R.slots)
    (kk : ∀ (H1 : Heap) (locs1 : List Loc), Wd G A H0 (wr ++ wc') H1 locs1 → W p l e R s m args below meth c H1 locs1 cells slots Q (F0 m (pc + 3) ls (.long r :: rest))) : W p l e R s m args below meth c H locs cells slots Q (F0 m pc ls st) := by
  obtain ⟨hPc, hDc, hFc⟩ := hW.cut isC h1 hnC
  subst hst
  refine va_calll (va_runS (As := As) (rest := rest) S (hC H.size) (va_cwS As.length S.2.2.2.2 hG hwy hrm.1 hrm.2 hd ⟨Nat.le_of_ble_eq_true hR.1, Nat.le_of_ble_eq_true hR.2⟩) ⟨kpre_blind, fun U hU hWm => ⟨rfl, by rw [hU], by rw [hU]; exact hPc, va_K.moved hWm.alike hK, hDc⟩⟩ rfl rfl hsl rfl (lv_room (Nat.le_of_ble_eq_true hro)) hdg hf) hW.2.2.1 (fun q _ h => hFc q h) hFc (fun r' u t H1 locs1 ht hvm hw hB hz1 hk1 hS => ?_)
  obtain ⟨hP1, hK1, hD1⟩ := hB
  rw [ht] at hP1
  rw [hw]
  exact kk H1 locs1 (hW.join isC isR h1 h2 hnR hdis hFc hk1 hS hP1 hD1)
theorem k_callSv (hC : CV l G y wsy rm As wc wc') (S : CallFix p m c cc nL s args Ts own) (hK : Kn G s) (hW : Wd G A H0 ws H locs) (hG : GoodIn Ts (va_wsS own index y wsy)) (hwy : wsy = Cond.code y bytes maxL ret :: wsy') (hrm : rm.cells = 0 ∧ rm.slots = 0)
    (hd : y.cls ≠ "java/lang/invoke/MethodHandle" ∧ y.cls ≠ "java/lang/invoke/VarHandle" ∧ (parseMethodDescriptor y.desc).map (fun d => d.parameters.length) = some As.length) (hR : Nat.ble (rm.frames + 1) R.frames = true ∧ Nat.ble (8 + (maxL + 11) + rm.locals) R.locals = true)
    (isC isR : List Nat) (h1 : isC.map (fun i => ws[i]?) = wc.map some) (h2 : isR.map (fun i => ws[i]?) = wr.map some) (hnC : va_nd isC = true) (hnR : va_nd isR = true) (hdis : ∀ i ∈ isR, i ∉ isC)
    (hst : st = As.reverse ++ rest) (hsl : ls.size = nL) (hro : Nat.ble ((rest.map fun v => v.category).sum) 8 = true) (hdg : decode cc pc = .ok (.invokestatic index, 3)) (hf : cells ≤ R.cells ∧ slots ≤ R.slots)
    (kk : ∀ (H1 : Heap) (locs1 : List Loc), Wd G A H0 (wr ++ wc') H1 locs1 → W p l e R s m args below meth c H1 locs1 cells slots Q (F0 m (pc + 3) ls rest)) : W p l e R s m args below meth c H locs cells slots Q (F0 m pc ls st) := by
  obtain ⟨hPc, hDc, hFc⟩ := hW.cut isC h1 hnC
  subst hst
  refine va_callv (va_runS (As := As) (rest := rest) S (hC H.size) (va_cwS As.length S.2.2.2.2 hG hwy hrm.1 hrm.2 hd ⟨Nat.le_of_ble_eq_true hR.1, Nat.le_of_ble_eq_true hR.2⟩) ⟨kpre_blind, fun U hU hWm => ⟨rfl, by rw [hU], by rw [hU]; exact hPc, va_K.moved hWm.alike hK, hDc⟩⟩ rfl rfl hsl rfl (lv_room (Nat.le_of_ble_eq_true hro)) hdg hf) hW.2.2.1 (fun q _ h => hFc q h) hFc (fun u t H1 locs1 ht hvm hw hB hz1 hk1 hS => ?_)
  obtain ⟨hP1, hK1, hD1⟩ := hB
  rw [ht] at hP1
  exact kk H1 locs1 (hW.join isC isR h1 h2 hnR hdis hFc hk1 hS hP1 hD1)
end LCALLS
/-- the age at the beginning, in its bounds -/
def AG (w : S5) : Prop := 0 ≤ w.1.toInt ∧ w.1.toInt ≤ 100
theorem ag_x {w : S5} {mm : Nat} (hw : AG w) (hm : mm ≤ 240) : (w.1 + (nI mm / 12) : Int32).toInt = w.1.toInt + (mm : Int) / 12 ∧ (w.1 + (nI mm / 12) : Int32).toNatClampNeg = w.1.toInt.toNat + mm / 12 := by
  obtain ⟨h0, h1⟩ := hw
  have e1 : (nI mm / 12 : Int32).toInt = (mm : Int) / 12 := by
    rw [show (12 : Int32) = nI 12 by decide +kernel, pk_div (by omega) (by omega) (by omega), nI_toInt (by omega)]
    omega
  have e : (w.1 + (nI mm / 12) : Int32).toInt = w.1.toInt + (mm : Int) / 12 := by
    rw [Int32.toInt_add, e1]
    exact Int.bmod_eq_of_le (by omega) (by omega)
  refine ⟨e, ?_⟩
  show (w.1 + (nI mm / 12) : Int32).toInt.toNat = _
  rw [e]
  omega
theorem ch0 {w : S5} {mm i : Nat} (hw : AG w) (hm : mm ≤ 240) (hi : i + 0 = (w.1 + (nI mm / 12) : Int32).toNatClampNeg - 30) : (w.1 + (nI mm / 12)) < nI (31 + i) := by
  obtain ⟨e1, e2⟩ := ag_x hw hm
  obtain ⟨h0, h1⟩ := hw
  rw [e2] at hi
  rw [Int32.lt_iff_toInt_lt, e1, nI_toInt (by omega)]
  omega
theorem ch1 {w : S5} {mm i d : Nat} (hw : AG w) (hm : mm ≤ 240) (hi : i + (d + 1) = (w.1 + (nI mm / 12) : Int32).toNatClampNeg - 30) : ¬ (w.1 + (nI mm / 12)) < nI (31 + i) := by
  obtain ⟨e1, e2⟩ := ag_x hw hm
  obtain ⟨h0, h1⟩ := hw
  rw [e2] at hi
  rw [Int32.lt_iff_toInt_lt, e1, nI_toInt (by omega)]
  omega
theorem co0 {i : Nat} {t : Int32} (h : i + 0 = 29 ∧ t = nI (250 - 5 * i)) : t ≤ 105 := by
  obtain ⟨h1, rfl⟩ := h
  rw [show i = 29 by omega]
  decide +kernel
theorem co1 {i d : Nat} {t : Int32} (h : i + (d + 1) = 29 ∧ t = nI (250 - 5 * i)) : i + 1 + d = 29 ∧ t + (-5) = nI (250 - 5 * (i + 1)) := by
  obtain ⟨h1, rfl⟩ := h
  refine ⟨by omega, ?_⟩
  apply Int32.toInt_inj.mp
  rw [Int32.toInt_add, nI_toInt (by omega), nI_toInt (by omega), show (-5 : Int32).toInt = -5 by decide, Int.bmod_eq_of_le (by omega) (by omega)]
  omega
theorem co2 : (250 : Int32) = nI 250 := by decide +kernel
theorem co3 : (41 : Int32) = nI (41 + 0) := by decide +kernel
theorem co4 : (31 : Int32) = nI (31 + 0) := by decide +kernel
end LKIT
def Lp_L_corridor (x : Int32) : Nat → Nat → Int32 → Int32
  | 0, i, t9 => if x < nI (41 + i) then t9
  else t9
  | d + 1, i, t9 => if x < nI (41 + i) then t9
  else (if t9 ≤ 105 then t9
    else Lp_L_corridor x d (i + 1) (t9 + (-5)))
def F_L_corridor (x : Int32) : Int32 :=
  Lp_L_corridor x 29 0 250
theorem nd_L_corridor : yL_corridor.cls ≠ "java/lang/invoke/MethodHandle" ∧ yL_corridor.cls ≠ "java/lang/invoke/VarHandle" ∧ (parseMethodDescriptor yL_corridor.desc).map (fun d => d.parameters.length) = some 1 := by decide +kernel
abbrev rm_L_corridor : Room := { frames := 0, cells := 0, slots := 0, locals := 0 }
set_option maxHeartbeats 4000000 in
set_option maxRecDepth 100000 in
theorem c_L_corridor (l : Launch) (G : GG)  (x : Int32) : CI l G yL_corridor wsL_corridor rm_L_corridor [.int x] [] (F_L_corridor x) [] := by
  refine CI_of (own := RL) (by decide +kernel) rfl rfl (Nat.le_of_ble_eq_true rfl) ?_
  intro pP eE sS mM args below meth cC A S hK hr hlk hmn hW ls hl
  have hx := S.1
  have hb := S.2.1
  have hl : lv_has ls 3 [(0, .int x)] := hl
  have hW : Wd G A sS.heap [] sS.heap [] := hW
  have key : ∀ (d i : Nat) (t9 : Int32), i + d = 29 ∧ t9 = nI (250 - 5 * i) → Lp_L_corridor x d i t9 = (F_L_corridor x) → ∀ (H : Heap) (locs : List Loc) (ls : Array Slot), Wd G A sS.heap [] H locs → lv_has ls 3 [(1, .int t9), (2, .int (nI (41 + i))), (0, .int x)] → W pP l eE rm_L_corridor sS mM args below meth cC H locs 0 0 (MQ below (QI G A (F_L_corridor x) []) args sS 0 0 A) (F0 mM 7 ls []) := by
    intro d
    induction d with
    | zero =>
      intro i t9 hi hF H locs ls hW hl
      have hc : t9 ≤ 105 := co0 hi
      refine lv_iload_n hx hb dL_corridor_7 rfl (lv_at hl 1 rfl) ?_
      refine lv_iload_n hx hb dL_corridor_8 rfl (lv_at hl 2 rfl) ?_
      refine lv_icmp_gt (tgt := 27) hx hb dL_corridor_9 (by decide) (fun c_1 => ?_) (fun c_1 => ?_)
      ·
        refine lv_iload_n hx hb dL_corridor_27 rfl (lv_at hl 0 rfl) ?_
        have eF : (F_L_corridor x) = t9 := hF.symm.trans (by
          rw [Lp_L_corridor, if_pos c_1])
        exact k_iret (wf := []) S hr hlk hK hW [] rfl rfl rfl (congrArg (fun (z : Int32) => z) eF).symm dL_corridor_28
      ·
        refine lv_iload_n hx hb dL_corridor_12 rfl (lv_at hl 0 rfl) ?_
        refine lv_bipush (v := 105) hx hb dL_corridor_13 (by decide) ?_
        refine lv_icmp_le (tgt := 27) hx hb dL_corridor_15 (by decide) (fun c_2 => ?_) (fun c_2 => ?_)
        ·
          refine lv_iload_n hx hb dL_corridor_27 rfl (lv_at hl 0 rfl) ?_
          have eF : (F_L_corridor x) = t9 := hF.symm.trans (by
            rw [Lp_L_corridor, if_neg c_1])
          exact k_iret (wf := []) S hr hlk hK hW [] rfl rfl rfl (congrArg (fun (z : Int32) => z) eF).symm dL_corridor_28
        ·
          exact absurd hc c_2
    | succ d ih =>
      intro i t9 hi hF H locs ls hW hl
      refine lv_iload_n hx hb dL_corridor_7 rfl (lv_at hl 1 rfl) ?_
      refine lv_iload_n hx hb dL_corridor_8 rfl (lv_at hl 2 rfl) ?_
      refine lv_icmp_gt (tgt := 27) hx hb dL_corridor_9 (by decide) (fun c_3 => ?_) (fun c_3 => ?_)
      ·
        refine lv_iload_n hx hb dL_corridor_27 rfl (lv_at hl 0 rfl) ?_
        have eF : (F_L_corridor x) = t9 := hF.symm.trans (by
          rw [Lp_L_corridor, if_pos c_3])
        exact k_iret (wf := []) S hr hlk hK hW [] rfl rfl rfl (congrArg (fun (z : Int32) => z) eF).symm dL_corridor_28
      ·
        refine lv_iload_n hx hb dL_corridor_12 rfl (lv_at hl 0 rfl) ?_
        refine lv_bipush (v := 105) hx hb dL_corridor_13 (by decide) ?_
        refine lv_icmp_le (tgt := 27) hx hb dL_corridor_15 (by decide) (fun c_4 => ?_) (fun c_4 => ?_)
        ·
          refine lv_iload_n hx hb dL_corridor_27 rfl (lv_at hl 0 rfl) ?_
          have eF : (F_L_corridor x) = t9 := hF.symm.trans (by
            rw [Lp_L_corridor, if_neg c_3, if_pos c_4])
          exact k_iret (wf := []) S hr hlk hK hW [] rfl rfl rfl (congrArg (fun (z : Int32) => z) eF).symm dL_corridor_28
        ·
          refine lv_iinc (v := (t9 + (-5))) (lv' := [(1, .int (t9 + (-5))), (2, .int (nI (41 + i))), (0, .int x)]) hx hb dL_corridor_18 hl (k := 0) rfl rfl (by decide) rfl (fun ls hl => ?_)
          refine lv_iinc (v := (nI (41 + i) + 1)) (lv' := [(2, .int (nI (41 + i) + 1)), (1, .int (t9 + (-5))), (0, .int x)]) hx hb dL_corridor_21 hl (k := 1) rfl rfl (by decide) rfl (fun ls hl => ?_)
          refine lv_goto (tgt := 7) hx hb dL_corridor_24 (by decide) ?_
          have eS : Lp_L_corridor x (d + 1) i t9 = Lp_L_corridor x d (i + 1) (t9 + (-5)) := by
            rw [Lp_L_corridor, if_neg c_3, if_neg c_4]
          have hl : lv_has ls 3 [(1, .int (t9 + (-5))), (2, .int (nI (41 + i + 1))), (0, .int x)] := by
            first | exact lv_sub hl [1, 0, 2] rfl | (rw [← nI_1]; exact lv_sub hl [1, 0, 2] rfl)
          exact ih (i + 1) (t9 + (-5)) (co1 hi) (eS.symm.trans hF) _ _ _ (hW.re [] rfl rfl) hl
  refine lv_sipush (v := 250) hx hb dL_corridor_0 (by decide) ?_
  refine lv_istore_n (lv' := [(1, .int 250), (0, .int x)]) hx hb dL_corridor_3 rfl hl (by decide) rfl (fun ls hl => ?_)
  refine lv_bipush (v := 41) hx hb dL_corridor_4 (by decide) ?_
  refine lv_istore_n (lv' := [(2, .int 41), (1, .int 250), (0, .int x)]) hx hb dL_corridor_6 rfl hl (by decide) rfl (fun ls hl => ?_)
  have eF : (F_L_corridor x) = Lp_L_corridor x 29 0 250 := by
    rfl
  exact key 29 0 250 ⟨by omega, co2⟩ eF.symm _ _ _ (hW.re [] rfl rfl) (lv_sub hl [1, 0, 2] (by rw [← co3] <;> rfl))
def F_L_death (w : S5) (v : S7) (m : Int32) : Int64 :=
  if w.2.2.1 = 1 then (if (lg_cmp (w.2.1.toInt64 + v.2.1.toInt64) ((v.2.1.toInt64 * (F_L_corridor (w.1 + (m / 12))).toInt64) / 100)) ≤ 0 then ((v.2.1.toInt64 * (F_L_corridor (w.1 + (m / 12))).toInt64) / 100)
    else (w.2.1.toInt64 + v.2.1.toInt64))
  else (if (lg_cmp (w.2.1.toInt64 + 0) ((v.2.1.toInt64 * (F_L_corridor (w.1 + (m / 12))).toInt64) / 100)) ≤ 0 then ((v.2.1.toInt64 * (F_L_corridor (w.1 + (m / 12))).toInt64) / 100)
    else (w.2.1.toInt64 + 0))
set_option maxRecDepth 100000 in
theorem k_L_death_c13 : Cond.constantLong RL 13 (100) ∈ wsL_death := by decide +kernel
theorem nd_L_death : yL_death.cls ≠ "java/lang/invoke/MethodHandle" ∧ yL_death.cls ≠ "java/lang/invoke/VarHandle" ∧ (parseMethodDescriptor yL_death.desc).map (fun d => d.parameters.length) = some 3 := by decide +kernel
abbrev rm_L_death : Room := { frames := 1, cells := 0, slots := 0, locals := 22 }
set_option maxHeartbeats 4000000 in
set_option maxRecDepth 100000 in
theorem c_L_death (l : Launch) (G : GG) (h : Nat → Nat) (a : Nat) (w : S5) (v : S7) (m : Int32) : CL l G yL_death wsL_death rm_L_death [.ref (h 18), .ref a, .int m] [aI G (h 18) 5 (nF w), aI G a 7 (pF v)] (F_L_death w v m) [aI G (h 18) 5 (nF w), aI G a 7 (pF v)] := by
  refine CL_of (own := RL) (by decide +kernel) rfl rfl (Nat.le_of_ble_eq_true rfl) ?_
  intro pP eE sS mM args below meth cC A S hK hr hlk hmn hW ls hl
  have hx := S.1
  have hb := S.2.1
  have hl : lv_has ls 9 [(0, .ref (h 18)), (1, .ref a), (2, .int m)] := hl
  have hW : Wd G A sS.heap [aI G (h 18) 5 (nF w), aI G a 7 (pF v)] sS.heap [] := hW
  refine lv_aload_n hx hb dL_death_0 rfl (lv_at hl 1 rfl) ?_
  refine lv_iconst (v := 1) hx hb dL_death_1 (by decide) ?_
  refine k_vld S hK hW 1 rfl (i := 1) (k := 1) (x := v.2.1) vi7_1 ix_1 rfl dL_death_2 ?_
  refine lv_i2l hx hb dL_death_3 rfl ?_
  refine lv_lstore_n (lv' := [(3, .long v.2.1.toInt64), (0, .ref (h 18)), (1, .ref a), (2, .int m)]) hx hb dL_death_4 rfl hl (by decide) rfl (fun ls hl => ?_)
  refine lv_aload_n hx hb dL_death_5 rfl (lv_at hl 1 rfl) ?_
  refine lv_iconst (v := 1) hx hb dL_death_6 (by decide) ?_
  refine k_vld S hK hW 0 rfl (i := 1) (k := 1) (x := w.2.1) vi5_1 ix_1 rfl dL_death_7 ?_
  refine lv_i2l hx hb dL_death_8 rfl ?_
  refine lv_aload_n hx hb dL_death_9 rfl (lv_at hl 1 rfl) ?_
  refine lv_iconst (v := 2) hx hb dL_death_10 (by decide) ?_
  refine k_vld S hK hW 0 rfl (i := 2) (k := 2) (x := w.2.2.1) vi5_2 ix_2 rfl dL_death_11 ?_
  refine lv_iconst (v := 1) hx hb dL_death_12 (by decide) ?_
  refine lv_icmp_ne (tgt := 20) hx hb dL_death_13 (by decide) (fun c_1 => ?_) (fun c_1 => ?_)
  ·
    refine lv_lconst (v := 0) hx hb dL_death_20 rfl ?_
    refine lv_ladd hx hb dL_death_21 ?_
    refine lv_lstore (lv' := [(5, .long (w.2.1.toInt64 + 0)), (3, .long v.2.1.toInt64), (0, .ref (h 18)), (1, .ref a), (2, .int m)]) hx hb dL_death_22 hl (by decide) rfl (fun ls hl => ?_)
    refine lv_lload_n hx hb dL_death_24 rfl (lv_at hl 1 rfl) ?_
    refine lv_aload_n hx hb dL_death_25 rfl (lv_at hl 2 rfl) ?_
    refine lv_iconst (v := 0) hx hb dL_death_26 (by decide) ?_
    refine k_vld S hK hW 0 rfl (i := 0) (k := 0) (x := w.1) vi5_0 ix_0 rfl dL_death_27 ?_
    refine lv_iload_n hx hb dL_death_28 rfl (lv_at hl 4 rfl) ?_
    refine lv_bipush (v := 12) hx hb dL_death_29 (by decide) ?_
    refine lv_idiv hx hb dL_death_31 (by decide) ?_
    refine lv_iadd hx hb dL_death_32 ?_
    refine k_callSi (As := [.int (w.1 + (m / 12))]) (rest := [.long v.2.1.toInt64]) (wr := [aI G (h 18) 5 (nF w), aI G a 7 (pF v)]) (c_L_corridor l G (w.1 + (m / 12))) S hK hW gL_death_L_corridor rfl ⟨rfl, rfl⟩ nd_L_corridor ⟨rfl, rfl⟩ [] [0, 1] rfl rfl rfl rfl (by decide) rfl hl.1 rfl dL_death_33 ⟨Nat.zero_le _, Nat.zero_le _⟩ (fun H locs hW => ?_)
    have hW : Wd G A sS.heap [aI G (h 18) 5 (nF w), aI G a 7 (pF v)] H locs := hW
    refine lv_i2l hx hb dL_death_36 rfl ?_
    refine lv_lmul hx hb dL_death_37 ?_
    refine k_ldc2 S k_L_death_c13 dL_death_38 ?_
    refine lv_ldiv hx hb dL_death_41 (by decide) ?_
    refine lv_lstore (lv' := [(7, .long ((v.2.1.toInt64 * (F_L_corridor (w.1 + (m / 12))).toInt64) / 100)), (5, .long (w.2.1.toInt64 + 0)), (3, .long v.2.1.toInt64), (0, .ref (h 18)), (1, .ref a), (2, .int m)]) hx hb dL_death_42 hl (by decide) rfl (fun ls hl => ?_)
    refine lv_lload hx hb dL_death_44 (lv_at hl 1 rfl) ?_
    refine lv_lload hx hb dL_death_46 (lv_at hl 0 rfl) ?_
    refine W.lcmp hx hb dL_death_48 ?_
    refine lv_if_le (tgt := 57) hx hb dL_death_49 (by decide) (fun c_2 => ?_) (fun c_2 => ?_)
    ·
      refine lv_lload hx hb dL_death_57 (lv_at hl 0 rfl) ?_
      have eF : (F_L_death w v m) = ((v.2.1.toInt64 * (F_L_corridor (w.1 + (m / 12))).toInt64) / 100) := by
        unfold F_L_death
        rw [if_neg c_1, if_pos c_2]
      exact k_lret (wf := [aI G (h 18) 5 (nF w), aI G a 7 (pF v)]) S hr hlk hK hW [0, 1] rfl rfl rfl (congrArg (fun (z : Int64) => z) eF).symm dL_death_59
    ·
      refine lv_lload hx hb dL_death_52 (lv_at hl 1 rfl) ?_
      refine lv_goto (tgt := 59) hx hb dL_death_54 (by decide) ?_
      have eF : (F_L_death w v m) = (w.2.1.toInt64 + 0) := by
        unfold F_L_death
        rw [if_neg c_1, if_neg c_2]
      exact k_lret (wf := [aI G (h 18) 5 (nF w), aI G a 7 (pF v)]) S hr hlk hK hW [0, 1] rfl rfl rfl (congrArg (fun (z : Int64) => z) eF).symm dL_death_59
  ·
    refine lv_lload_n hx hb dL_death_16 rfl (lv_at hl 0 rfl) ?_
    refine lv_goto (tgt := 21) hx hb dL_death_17 (by decide) ?_
    refine lv_ladd hx hb dL_death_21 ?_
    refine lv_lstore (lv' := [(5, .long (w.2.1.toInt64 + v.2.1.toInt64)), (3, .long v.2.1.toInt64), (0, .ref (h 18)), (1, .ref a), (2, .int m)]) hx hb dL_death_22 hl (by decide) rfl (fun ls hl => ?_)
    refine lv_lload_n hx hb dL_death_24 rfl (lv_at hl 1 rfl) ?_
    refine lv_aload_n hx hb dL_death_25 rfl (lv_at hl 2 rfl) ?_
    refine lv_iconst (v := 0) hx hb dL_death_26 (by decide) ?_
    refine k_vld S hK hW 0 rfl (i := 0) (k := 0) (x := w.1) vi5_0 ix_0 rfl dL_death_27 ?_
    refine lv_iload_n hx hb dL_death_28 rfl (lv_at hl 4 rfl) ?_
    refine lv_bipush (v := 12) hx hb dL_death_29 (by decide) ?_
    refine lv_idiv hx hb dL_death_31 (by decide) ?_
    refine lv_iadd hx hb dL_death_32 ?_
    refine k_callSi (As := [.int (w.1 + (m / 12))]) (rest := [.long v.2.1.toInt64]) (wr := [aI G (h 18) 5 (nF w), aI G a 7 (pF v)]) (c_L_corridor l G (w.1 + (m / 12))) S hK hW gL_death_L_corridor rfl ⟨rfl, rfl⟩ nd_L_corridor ⟨rfl, rfl⟩ [] [0, 1] rfl rfl rfl rfl (by decide) rfl hl.1 rfl dL_death_33 ⟨Nat.zero_le _, Nat.zero_le _⟩ (fun H locs hW => ?_)
    have hW : Wd G A sS.heap [aI G (h 18) 5 (nF w), aI G a 7 (pF v)] H locs := hW
    refine lv_i2l hx hb dL_death_36 rfl ?_
    refine lv_lmul hx hb dL_death_37 ?_
    refine k_ldc2 S k_L_death_c13 dL_death_38 ?_
    refine lv_ldiv hx hb dL_death_41 (by decide) ?_
    refine lv_lstore (lv' := [(7, .long ((v.2.1.toInt64 * (F_L_corridor (w.1 + (m / 12))).toInt64) / 100)), (5, .long (w.2.1.toInt64 + v.2.1.toInt64)), (3, .long v.2.1.toInt64), (0, .ref (h 18)), (1, .ref a), (2, .int m)]) hx hb dL_death_42 hl (by decide) rfl (fun ls hl => ?_)
    refine lv_lload hx hb dL_death_44 (lv_at hl 1 rfl) ?_
    refine lv_lload hx hb dL_death_46 (lv_at hl 0 rfl) ?_
    refine W.lcmp hx hb dL_death_48 ?_
    refine lv_if_le (tgt := 57) hx hb dL_death_49 (by decide) (fun c_3 => ?_) (fun c_3 => ?_)
    ·
      refine lv_lload hx hb dL_death_57 (lv_at hl 0 rfl) ?_
      have eF : (F_L_death w v m) = ((v.2.1.toInt64 * (F_L_corridor (w.1 + (m / 12))).toInt64) / 100) := by
        unfold F_L_death
        rw [if_pos c_1, if_pos c_3]
      exact k_lret (wf := [aI G (h 18) 5 (nF w), aI G a 7 (pF v)]) S hr hlk hK hW [0, 1] rfl rfl rfl (congrArg (fun (z : Int64) => z) eF).symm dL_death_59
    ·
      refine lv_lload hx hb dL_death_52 (lv_at hl 1 rfl) ?_
      refine lv_goto (tgt := 59) hx hb dL_death_54 (by decide) ?_
      have eF : (F_L_death w v m) = (w.2.1.toInt64 + v.2.1.toInt64) := by
        unfold F_L_death
        rw [if_pos c_1, if_neg c_3]
      exact k_lret (wf := [aI G (h 18) 5 (nF w), aI G a 7 (pF v)]) S hr hlk hK hW [0, 1] rfl rfl rfl (congrArg (fun (z : Int64) => z) eF).symm dL_death_59
def Lp_L_charge  : Nat → Nat → Int32 → Int64 → Int32
  | 0, i, t9, k9 => if (lg_cmp k9 0) ≤ 0 then (500 + (0 : Int64).toInt32)
  else (500 + ((k9 * t9.toInt64) / 100000).toInt32)
  | d + 1, i, t9, k9 => Lp_L_charge  d (i + 1) (t9 + 2) k9
def F_L_charge (w : S5) (v : S7) (mm : Nat) : Int32 :=
  Lp_L_charge  ((w.1 + (nI mm / 12) : Int32).toNatClampNeg - 30) 0 10 ((F_L_death w v (nI mm)) - v.2.1.toInt64)
set_option maxRecDepth 100000 in
theorem k_L_charge_c19 : Cond.constantLong RL 19 (100000) ∈ wsL_charge := by decide +kernel
theorem nd_L_charge : yL_charge.cls ≠ "java/lang/invoke/MethodHandle" ∧ yL_charge.cls ≠ "java/lang/invoke/VarHandle" ∧ (parseMethodDescriptor yL_charge.desc).map (fun d => d.parameters.length) = some 3 := by decide +kernel
abbrev rm_L_charge : Room := { frames := 2, cells := 0, slots := 0, locals := 50 }
set_option maxHeartbeats 4000000 in
set_option maxRecDepth 100000 in
theorem c_L_charge (l : Launch) (G : GG) (h : Nat → Nat) (a : Nat) (w : S5) (v : S7) (mm : Nat)  (hw : AG w) (hm : mm ≤ 240) : CI l G yL_charge wsL_charge rm_L_charge [.ref (h 18), .ref a, .int (nI mm)] [aI G (h 18) 5 (nF w), aI G a 7 (pF v)] (F_L_charge w v mm) [aI G (h 18) 5 (nF w), aI G a 7 (pF v)] := by
  refine CI_of (own := RL) (by decide +kernel) rfl rfl (Nat.le_of_ble_eq_true rfl) ?_
  intro pP eE sS mM args below meth cC A S hK hr hlk hmn hW ls hl
  have hx := S.1
  have hb := S.2.1
  have hl : lv_has ls 7 [(0, .ref (h 18)), (1, .ref a), (2, .int (nI mm))] := hl
  have hW : Wd G A sS.heap [aI G (h 18) 5 (nF w), aI G a 7 (pF v)] sS.heap [] := hW
  have key : ∀ (d i : Nat) (t9 : Int32) (k9 : Int64), i + d = ((w.1 + (nI mm / 12) : Int32).toNatClampNeg - 30) → Lp_L_charge  d i t9 k9 = (F_L_charge w v mm) → ∀ (H : Heap) (locs : List Loc) (ls : Array Slot), Wd G A sS.heap [aI G (h 18) 5 (nF w), aI G a 7 (pF v)] H locs → lv_has ls 7 [(5, .int t9), (6, .int (nI (31 + i))), (3, .long k9), (0, .ref (h 18)), (1, .ref a), (2, .int (nI mm))] → W pP l eE rm_L_charge sS mM args below meth cC H locs 0 0 (MQ below (QI G A (F_L_charge w v mm) [aI G (h 18) 5 (nF w), aI G a 7 (pF v)]) args sS 0 0 A) (F0 mM 20 ls []) := by
    intro d
    induction d with
    | zero =>
      intro i t9 k9 hi hF H locs ls hW hl
      have hc : (w.1 + (nI mm / 12)) < nI (31 + i) := ch0 hw hm hi
      refine lv_iload hx hb dL_charge_20 (lv_at hl 1 rfl) ?_
      refine lv_aload_n hx hb dL_charge_22 rfl (lv_at hl 3 rfl) ?_
      refine lv_iconst (v := 0) hx hb dL_charge_23 (by decide) ?_
      refine k_vld S hK hW 0 rfl (i := 0) (k := 0) (x := w.1) vi5_0 ix_0 rfl dL_charge_24 ?_
      refine lv_iload_n hx hb dL_charge_25 rfl (lv_at hl 5 rfl) ?_
      refine lv_bipush (v := 12) hx hb dL_charge_26 (by decide) ?_
      refine lv_idiv hx hb dL_charge_28 (by decide) ?_
      refine lv_iadd hx hb dL_charge_29 ?_
      refine lv_icmp_gt (tgt := 42) hx hb dL_charge_30 (by decide) (fun c_1 => ?_) (fun c_1 => ?_)
      ·
        refine lv_sipush (v := 500) hx hb dL_charge_42 (by decide) ?_
        refine lv_lload_n hx hb dL_charge_45 rfl (lv_at hl 2 rfl) ?_
        refine lv_lconst (v := 0) hx hb dL_charge_46 rfl ?_
        refine W.lcmp hx hb dL_charge_47 ?_
        refine lv_if_le (tgt := 63) hx hb dL_charge_48 (by decide) (fun c_2 => ?_) (fun c_2 => ?_)
        ·
          refine lv_lconst (v := 0) hx hb dL_charge_63 rfl ?_
          refine lv_l2i hx hb dL_charge_64 rfl ?_
          refine lv_iadd hx hb dL_charge_65 ?_
          have eF : (F_L_charge w v mm) = (500 + (0 : Int64).toInt32) := hF.symm.trans (by
            rw [Lp_L_charge, if_pos c_2])
          exact k_iret (wf := [aI G (h 18) 5 (nF w), aI G a 7 (pF v)]) S hr hlk hK hW [0, 1] rfl rfl rfl (congrArg (fun (z : Int32) => z) eF).symm dL_charge_66
        ·
          refine lv_lload_n hx hb dL_charge_51 rfl (lv_at hl 2 rfl) ?_
          refine lv_iload hx hb dL_charge_52 (lv_at hl 0 rfl) ?_
          refine lv_i2l hx hb dL_charge_54 rfl ?_
          refine lv_lmul hx hb dL_charge_55 ?_
          refine k_ldc2 S k_L_charge_c19 dL_charge_56 ?_
          refine lv_ldiv hx hb dL_charge_59 (by decide) ?_
          refine lv_goto (tgt := 64) hx hb dL_charge_60 (by decide) ?_
          refine lv_l2i hx hb dL_charge_64 rfl ?_
          refine lv_iadd hx hb dL_charge_65 ?_
          have eF : (F_L_charge w v mm) = (500 + ((k9 * t9.toInt64) / 100000).toInt32) := hF.symm.trans (by
            rw [Lp_L_charge, if_neg c_2])
          exact k_iret (wf := [aI G (h 18) 5 (nF w), aI G a 7 (pF v)]) S hr hlk hK hW [0, 1] rfl rfl rfl (congrArg (fun (z : Int32) => z) eF).symm dL_charge_66
      ·
        exact absurd hc c_1
    | succ d ih =>
      intro i t9 k9 hi hF H locs ls hW hl
      have hc : ¬ (w.1 + (nI mm / 12)) < nI (31 + i) := ch1 hw hm hi
      refine lv_iload hx hb dL_charge_20 (lv_at hl 1 rfl) ?_
      refine lv_aload_n hx hb dL_charge_22 rfl (lv_at hl 3 rfl) ?_
      refine lv_iconst (v := 0) hx hb dL_charge_23 (by decide) ?_
      refine k_vld S hK hW 0 rfl (i := 0) (k := 0) (x := w.1) vi5_0 ix_0 rfl dL_charge_24 ?_
      refine lv_iload_n hx hb dL_charge_25 rfl (lv_at hl 5 rfl) ?_
      refine lv_bipush (v := 12) hx hb dL_charge_26 (by decide) ?_
      refine lv_idiv hx hb dL_charge_28 (by decide) ?_
      refine lv_iadd hx hb dL_charge_29 ?_
      refine lv_icmp_gt (tgt := 42) hx hb dL_charge_30 (by decide) (fun c_3 => ?_) (fun c_3 => ?_)
      ·
        exact absurd c_3 hc
      ·
        refine lv_iinc (v := (t9 + 2)) (lv' := [(5, .int (t9 + 2)), (6, .int (nI (31 + i))), (3, .long k9), (0, .ref (h 18)), (1, .ref a), (2, .int (nI mm))]) hx hb dL_charge_33 hl (k := 0) rfl rfl (by decide) rfl (fun ls hl => ?_)
        refine lv_iinc (v := (nI (31 + i) + 1)) (lv' := [(6, .int (nI (31 + i) + 1)), (5, .int (t9 + 2)), (3, .long k9), (0, .ref (h 18)), (1, .ref a), (2, .int (nI mm))]) hx hb dL_charge_36 hl (k := 1) rfl rfl (by decide) rfl (fun ls hl => ?_)
        refine lv_goto (tgt := 20) hx hb dL_charge_39 (by decide) ?_
        have eS : Lp_L_charge  (d + 1) i t9 k9 = Lp_L_charge  d (i + 1) (t9 + 2) k9 := by
          rw [Lp_L_charge]
        have hl : lv_has ls 7 [(5, .int (t9 + 2)), (6, .int (nI (31 + i + 1))), (3, .long k9), (0, .ref (h 18)), (1, .ref a), (2, .int (nI mm))] := by
          first | exact lv_sub hl [1, 0, 2, 3, 4, 5] rfl | (rw [← nI_1]; exact lv_sub hl [1, 0, 2, 3, 4, 5] rfl)
        exact ih (i + 1) (t9 + 2) k9 (by omega) (eS.symm.trans hF) _ _ _ (hW.re [0, 1] rfl rfl) hl
  refine lv_aload_n hx hb dL_charge_0 rfl (lv_at hl 0 rfl) ?_
  refine lv_aload_n hx hb dL_charge_1 rfl (lv_at hl 1 rfl) ?_
  refine lv_iload_n hx hb dL_charge_2 rfl (lv_at hl 2 rfl) ?_
  refine k_callSl (As := [.ref (h 18), .ref a, .int (nI mm)]) (rest := []) (wr := []) (c_L_death l G h a w v (nI mm)) S hK hW gL_charge_L_death rfl ⟨rfl, rfl⟩ nd_L_death ⟨rfl, rfl⟩ [0, 1] [] rfl rfl rfl rfl (by decide) rfl hl.1 rfl dL_charge_3 ⟨Nat.zero_le _, Nat.zero_le _⟩ (fun H locs hW => ?_)
  have hW : Wd G A sS.heap [aI G (h 18) 5 (nF w), aI G a 7 (pF v)] H locs := hW
  refine lv_aload_n hx hb dL_charge_6 rfl (lv_at hl 1 rfl) ?_
  refine lv_iconst (v := 1) hx hb dL_charge_7 (by decide) ?_
  refine k_vld S hK hW 1 rfl (i := 1) (k := 1) (x := v.2.1) vi7_1 ix_1 rfl dL_charge_8 ?_
  refine lv_i2l hx hb dL_charge_9 rfl ?_
  refine lv_lsub hx hb dL_charge_10 ?_
  refine lv_lstore_n (lv' := [(3, .long ((F_L_death w v (nI mm)) - v.2.1.toInt64)), (0, .ref (h 18)), (1, .ref a), (2, .int (nI mm))]) hx hb dL_charge_11 rfl hl (by decide) rfl (fun ls hl => ?_)
  refine lv_bipush (v := 10) hx hb dL_charge_12 (by decide) ?_
  refine lv_istore (lv' := [(5, .int 10), (3, .long ((F_L_death w v (nI mm)) - v.2.1.toInt64)), (0, .ref (h 18)), (1, .ref a), (2, .int (nI mm))]) hx hb dL_charge_14 hl (by decide) rfl (fun ls hl => ?_)
  refine lv_bipush (v := 31) hx hb dL_charge_16 (by decide) ?_
  refine lv_istore (lv' := [(6, .int 31), (5, .int 10), (3, .long ((F_L_death w v (nI mm)) - v.2.1.toInt64)), (0, .ref (h 18)), (1, .ref a), (2, .int (nI mm))]) hx hb dL_charge_18 hl (by decide) rfl (fun ls hl => ?_)
  have eF : (F_L_charge w v mm) = Lp_L_charge  ((w.1 + (nI mm / 12) : Int32).toNatClampNeg - 30) 0 10 ((F_L_death w v (nI mm)) - v.2.1.toInt64) := by
    rfl
  exact key ((w.1 + (nI mm / 12) : Int32).toNatClampNeg - 30) 0 10 ((F_L_death w v (nI mm)) - v.2.1.toInt64) (by omega) eF.symm _ _ _ (hW.re [0, 1] rfl rfl) (lv_sub hl [1, 0, 2, 3, 4, 5] (by rw [← co4] <;> rfl))
def F_L_acts (w : S5) (v : S7) (k : Int32) (x : Int32) (m : Int32) : Bool × S7 :=
  if k = 0 then (if 2 ≤ v.1 then (false, v)
    else (if 0 ≤ (x - v.2.2.2.1) then (true, (0, (v.2.1 + (x - v.2.2.2.1)), v.2.2.1, 0, 0, v.2.2.2.2.2.1, v.2.2.2.2.2.2))
      else (if (-(x - v.2.2.2.1)) = 0 then (true, (0, (v.2.1 + 0), v.2.2.1, (-(x - v.2.2.2.1)), 0, v.2.2.2.2.2.1, v.2.2.2.2.2.2))
        else (true, (v.1, (v.2.1 + 0), v.2.2.1, (-(x - v.2.2.2.1)), v.2.2.2.2.1, v.2.2.2.2.2.1, v.2.2.2.2.2.2)))))
  else (if k = 1 then (if v.1 = 0 then (if (v.2.1 - v.2.2.1) < x then (false, v)
        else (true, (v.1, v.2.1, (v.2.2.1 + x), v.2.2.2.1, v.2.2.2.2.1, v.2.2.2.2.2.1, v.2.2.2.2.2.2)))
      else (false, v))
    else (if k = 2 then (if 2 ≤ v.1 then (false, v)
        else (if v.2.2.1 < x then (false, v)
          else (true, (v.1, v.2.1, (v.2.2.1 - x), v.2.2.2.1, v.2.2.2.2.1, v.2.2.2.2.2.1, v.2.2.2.2.2.2))))
      else (if k = 3 then (if v.1 = 0 then (if (v.2.1 - v.2.2.1) < x then (false, v)
            else (true, (v.1, (v.2.1 - x), v.2.2.1, v.2.2.2.1, v.2.2.2.2.1, v.2.2.2.2.2.1, v.2.2.2.2.2.2)))
          else (false, v))
        else (if k = 4 then (if v.1 = 2 then (if 24 ≤ v.2.2.2.2.2.1 then (false, v)
              else (if x < (v.2.2.2.1 + (500 * v.2.2.2.2.2.1)) then (false, v)
                else (true, (0, ((x - v.2.2.2.1) - (500 * v.2.2.2.2.2.1)), v.2.2.1, 0, v.2.2.2.2.1, v.2.2.2.2.2.1, v.2.2.2.2.2.2))))
            else (false, v))
          else (if k = 5 then (if 2 ≤ v.1 then (false, v)
              else (if (lg_cmp ((F_L_death w v m) - v.2.2.1.toInt64) 0) ≤ 0 then (true, (3, v.2.1, v.2.2.1, v.2.2.2.1, v.2.2.2.2.1, v.2.2.2.2.2.1, 0))
                else (true, (3, v.2.1, v.2.2.1, v.2.2.2.1, v.2.2.2.2.1, v.2.2.2.2.2.1, (((F_L_death w v m) - v.2.2.1.toInt64).toInt32)))))
            else (false, v))))))
theorem nd_L_acts : yL_acts.cls ≠ "java/lang/invoke/MethodHandle" ∧ yL_acts.cls ≠ "java/lang/invoke/VarHandle" ∧ (parseMethodDescriptor yL_acts.desc).map (fun d => d.parameters.length) = some 5 := by decide +kernel
abbrev rm_L_acts : Room := { frames := 2, cells := 0, slots := 0, locals := 50 }
set_option maxHeartbeats 4000000 in
set_option maxRecDepth 100000 in
theorem c_L_acts (l : Launch) (G : GG) (h : Nat → Nat) (a : Nat) (w : S5) (v : S7) (k : Int32) (x : Int32) (m : Int32) : CI l G yL_acts wsL_acts rm_L_acts [.ref (h 18), .ref a, .int k, .int x, .int m] [aI G (h 18) 5 (nF w), aI G a 7 (pF v)] (bI ((F_L_acts w v k x m).1)) [aI G (h 18) 5 (nF w), aI G a 7 (pF ((F_L_acts w v k x m).2))] := by
  refine CI_of (own := RL) (by decide +kernel) rfl rfl (Nat.le_of_ble_eq_true rfl) ?_
  intro pP eE sS mM args below meth cC A S hK hr hlk hmn hW ls hl
  have hx := S.1
  have hb := S.2.1
  have hl : lv_has ls 8 [(0, .ref (h 18)), (1, .ref a), (2, .int k), (3, .int x), (4, .int m)] := hl
  have hW : Wd G A sS.heap [aI G (h 18) 5 (nF w), aI G a 7 (pF v)] sS.heap [] := hW
  refine lv_aload_n hx hb dL_acts_0 rfl (lv_at hl 1 rfl) ?_
  refine lv_iconst (v := 1) hx hb dL_acts_1 (by decide) ?_
  refine k_vld S hK hW 1 rfl (i := 1) (k := 1) (x := v.2.1) vi7_1 ix_1 rfl dL_acts_2 ?_
  refine lv_aload_n hx hb dL_acts_3 rfl (lv_at hl 1 rfl) ?_
  refine lv_iconst (v := 2) hx hb dL_acts_4 (by decide) ?_
  refine k_vld S hK hW 1 rfl (i := 2) (k := 2) (x := v.2.2.1) vi7_2 ix_2 rfl dL_acts_5 ?_
  refine lv_isub hx hb dL_acts_6 ?_
  refine lv_istore (lv' := [(5, .int (v.2.1 - v.2.2.1)), (0, .ref (h 18)), (1, .ref a), (2, .int k), (3, .int x), (4, .int m)]) hx hb dL_acts_7 hl (by decide) rfl (fun ls hl => ?_)
  refine lv_iload_n hx hb dL_acts_9 rfl (lv_at hl 3 rfl) ?_
  refine lv_if_ne (tgt := 93) hx hb dL_acts_10 (by decide) (fun c_1 => ?_) (fun c_1 => ?_)
  ·
    refine lv_iload_n hx hb dL_acts_93 rfl (lv_at hl 3 rfl) ?_
    refine lv_iconst (v := 1) hx hb dL_acts_94 (by decide) ?_
    refine lv_icmp_ne (tgt := 119) hx hb dL_acts_95 (by decide) (fun c_2 => ?_) (fun c_2 => ?_)
    ·
      refine lv_iload_n hx hb dL_acts_119 rfl (lv_at hl 3 rfl) ?_
      refine lv_iconst (v := 2) hx hb dL_acts_120 (by decide) ?_
      refine lv_icmp_ne (tgt := 147) hx hb dL_acts_121 (by decide) (fun c_3 => ?_) (fun c_3 => ?_)
      ·
        refine lv_iload_n hx hb dL_acts_147 rfl (lv_at hl 3 rfl) ?_
        refine lv_iconst (v := 3) hx hb dL_acts_148 (by decide) ?_
        refine lv_icmp_ne (tgt := 173) hx hb dL_acts_149 (by decide) (fun c_4 => ?_) (fun c_4 => ?_)
        ·
          refine lv_iload_n hx hb dL_acts_173 rfl (lv_at hl 3 rfl) ?_
          refine lv_iconst (v := 4) hx hb dL_acts_174 (by decide) ?_
          refine lv_icmp_ne (tgt := 234) hx hb dL_acts_175 (by decide) (fun c_5 => ?_) (fun c_5 => ?_)
          ·
            refine lv_iload_n hx hb dL_acts_234 rfl (lv_at hl 3 rfl) ?_
            refine lv_iconst (v := 5) hx hb dL_acts_235 (by decide) ?_
            refine lv_icmp_ne (tgt := 284) hx hb dL_acts_236 (by decide) (fun c_6 => ?_) (fun c_6 => ?_)
            ·
              refine lv_iconst (v := 0) hx hb dL_acts_284 (by decide) ?_
              have eF : (F_L_acts w v k x m) = (false, v) := by
                unfold F_L_acts
                rw [if_neg c_1, if_neg c_2, if_neg c_3, if_neg c_4, if_neg c_5, if_neg c_6]
              exact k_zret (wf := [aI G (h 18) 5 (nF w), aI G a 7 (pF v)]) S hr hlk hK hW [0, 1] rfl rfl (congrArg (fun (z : Bool × S7) => [aI G (h 18) 5 (nF w), aI G a 7 (pF z.2)]) eF).symm (congrArg (fun (z : Bool × S7) => bI z.1) eF).symm dL_acts_285
            ·
              refine lv_aload_n hx hb dL_acts_239 rfl (lv_at hl 2 rfl) ?_
              refine lv_iconst (v := 0) hx hb dL_acts_240 (by decide) ?_
              refine k_vld S hK hW 1 rfl (i := 0) (k := 0) (x := v.1) vi7_0 ix_0 rfl dL_acts_241 ?_
              refine lv_iconst (v := 2) hx hb dL_acts_242 (by decide) ?_
              refine lv_icmp_ge (tgt := 284) hx hb dL_acts_243 (by decide) (fun c_7 => ?_) (fun c_7 => ?_)
              ·
                refine lv_iconst (v := 0) hx hb dL_acts_284 (by decide) ?_
                have eF : (F_L_acts w v k x m) = (false, v) := by
                  unfold F_L_acts
                  rw [if_neg c_1, if_neg c_2, if_neg c_3, if_neg c_4, if_neg c_5, if_pos c_6, if_pos c_7]
                exact k_zret (wf := [aI G (h 18) 5 (nF w), aI G a 7 (pF v)]) S hr hlk hK hW [0, 1] rfl rfl (congrArg (fun (z : Bool × S7) => [aI G (h 18) 5 (nF w), aI G a 7 (pF z.2)]) eF).symm (congrArg (fun (z : Bool × S7) => bI z.1) eF).symm dL_acts_285
              ·
                refine lv_aload_n hx hb dL_acts_246 rfl (lv_at hl 1 rfl) ?_
                refine lv_aload_n hx hb dL_acts_247 rfl (lv_at hl 2 rfl) ?_
                refine lv_iload hx hb dL_acts_248 (lv_at hl 5 rfl) ?_
                refine k_callSl (As := [.ref (h 18), .ref a, .int m]) (rest := []) (wr := []) (c_L_death l G h a w v m) S hK hW gL_acts_L_death rfl ⟨rfl, rfl⟩ nd_L_death ⟨rfl, rfl⟩ [0, 1] [] rfl rfl rfl rfl (by decide) rfl hl.1 rfl dL_acts_250 ⟨Nat.zero_le _, Nat.zero_le _⟩ (fun H locs hW => ?_)
                have hW : Wd G A sS.heap [aI G (h 18) 5 (nF w), aI G a 7 (pF v)] H locs := hW
                refine lv_aload_n hx hb dL_acts_253 rfl (lv_at hl 2 rfl) ?_
                refine lv_iconst (v := 2) hx hb dL_acts_254 (by decide) ?_
                refine k_vld S hK hW 1 rfl (i := 2) (k := 2) (x := v.2.2.1) vi7_2 ix_2 rfl dL_acts_255 ?_
                refine lv_i2l hx hb dL_acts_256 rfl ?_
                refine lv_lsub hx hb dL_acts_257 ?_
                refine lv_lstore (lv' := [(6, .long ((F_L_death w v m) - v.2.2.1.toInt64)), (5, .int (v.2.1 - v.2.2.1)), (0, .ref (h 18)), (1, .ref a), (2, .int k), (3, .int x), (4, .int m)]) hx hb dL_acts_258 hl (by decide) rfl (fun ls hl => ?_)
                refine lv_aload_n hx hb dL_acts_260 rfl (lv_at hl 3 rfl) ?_
                refine lv_bipush (v := 6) hx hb dL_acts_261 (by decide) ?_
                refine lv_lload hx hb dL_acts_263 (lv_at hl 0 rfl) ?_
                refine lv_lconst (v := 0) hx hb dL_acts_265 rfl ?_
                refine W.lcmp hx hb dL_acts_266 ?_
                refine lv_if_le (tgt := 276) hx hb dL_acts_267 (by decide) (fun c_8 => ?_) (fun c_8 => ?_)
                ·
                  refine lv_iconst (v := 0) hx hb dL_acts_276 (by decide) ?_
                  refine k_vst (f' := pF (v.1, v.2.1, v.2.2.1, v.2.2.2.1, v.2.2.2.2.1, v.2.2.2.2.2.1, 0)) (ws' := [aI G (h 18) 5 (nF w), aI G a 7 (pF (v.1, v.2.1, v.2.2.1, v.2.2.2.1, v.2.2.2.2.1, v.2.2.2.2.2.1, 0))]) S hK hW 1 rfl (i := 6) (k := 6) vi7_6 ix_6 (up_p6 _ _) rfl dL_acts_277 (fun H locs hW => ?_)
                  refine lv_aload_n hx hb dL_acts_278 rfl (lv_at hl 3 rfl) ?_
                  refine lv_iconst (v := 0) hx hb dL_acts_279 (by decide) ?_
                  refine lv_iconst (v := 3) hx hb dL_acts_280 (by decide) ?_
                  refine k_vst (f' := pF (3, v.2.1, v.2.2.1, v.2.2.2.1, v.2.2.2.2.1, v.2.2.2.2.2.1, 0)) (ws' := [aI G (h 18) 5 (nF w), aI G a 7 (pF (3, v.2.1, v.2.2.1, v.2.2.2.1, v.2.2.2.2.1, v.2.2.2.2.2.1, 0))]) S hK hW 1 rfl (i := 0) (k := 0) vi7_0 ix_0 (up_p0 _ _) rfl dL_acts_281 (fun H locs hW => ?_)
                  refine lv_iconst (v := 1) hx hb dL_acts_282 (by decide) ?_
                  have eF : (F_L_acts w v k x m) = (true, (3, v.2.1, v.2.2.1, v.2.2.2.1, v.2.2.2.2.1, v.2.2.2.2.2.1, 0)) := by
                    unfold F_L_acts
                    rw [if_neg c_1, if_neg c_2, if_neg c_3, if_neg c_4, if_neg c_5, if_pos c_6, if_neg c_7, if_pos c_8]
                  exact k_zret (wf := [aI G (h 18) 5 (nF w), aI G a 7 (pF (3, v.2.1, v.2.2.1, v.2.2.2.1, v.2.2.2.2.1, v.2.2.2.2.2.1, 0))]) S hr hlk hK hW [0, 1] rfl rfl (congrArg (fun (z : Bool × S7) => [aI G (h 18) 5 (nF w), aI G a 7 (pF z.2)]) eF).symm (congrArg (fun (z : Bool × S7) => bI z.1) eF).symm dL_acts_283
                ·
                  refine lv_lload hx hb dL_acts_270 (lv_at hl 0 rfl) ?_
                  refine lv_l2i hx hb dL_acts_272 rfl ?_
                  refine lv_goto (tgt := 277) hx hb dL_acts_273 (by decide) ?_
                  refine lv_topi (fun z_9 ez_9 => ?_)
                  refine k_vst (f' := pF (v.1, v.2.1, v.2.2.1, v.2.2.2.1, v.2.2.2.2.1, v.2.2.2.2.2.1, z_9)) (ws' := [aI G (h 18) 5 (nF w), aI G a 7 (pF (v.1, v.2.1, v.2.2.1, v.2.2.2.1, v.2.2.2.2.1, v.2.2.2.2.2.1, z_9))]) S hK hW 1 rfl (i := 6) (k := 6) vi7_6 ix_6 (up_p6 _ _) rfl dL_acts_277 (fun H locs hW => ?_)
                  refine lv_aload_n hx hb dL_acts_278 rfl (lv_at hl 3 rfl) ?_
                  refine lv_iconst (v := 0) hx hb dL_acts_279 (by decide) ?_
                  refine lv_iconst (v := 3) hx hb dL_acts_280 (by decide) ?_
                  refine k_vst (f' := pF (3, v.2.1, v.2.2.1, v.2.2.2.1, v.2.2.2.2.1, v.2.2.2.2.2.1, z_9)) (ws' := [aI G (h 18) 5 (nF w), aI G a 7 (pF (3, v.2.1, v.2.2.1, v.2.2.2.1, v.2.2.2.2.1, v.2.2.2.2.2.1, z_9))]) S hK hW 1 rfl (i := 0) (k := 0) vi7_0 ix_0 (up_p0 _ _) rfl dL_acts_281 (fun H locs hW => ?_)
                  refine lv_iconst (v := 1) hx hb dL_acts_282 (by decide) ?_
                  have hW9 := hW
                  have hl9 := hl
                  subst ez_9
                  have eF : (F_L_acts w v k x m) = (true, (3, v.2.1, v.2.2.1, v.2.2.2.1, v.2.2.2.2.1, v.2.2.2.2.2.1, (((F_L_death w v m) - v.2.2.1.toInt64).toInt32))) := by
                    unfold F_L_acts
                    rw [if_neg c_1, if_neg c_2, if_neg c_3, if_neg c_4, if_neg c_5, if_pos c_6, if_neg c_7, if_neg c_8]
                  exact k_zret (wf := [aI G (h 18) 5 (nF w), aI G a 7 (pF (3, v.2.1, v.2.2.1, v.2.2.2.1, v.2.2.2.2.1, v.2.2.2.2.2.1, (((F_L_death w v m) - v.2.2.1.toInt64).toInt32)))]) S hr hlk hK hW9 [0, 1] rfl rfl (congrArg (fun (z : Bool × S7) => [aI G (h 18) 5 (nF w), aI G a 7 (pF z.2)]) eF).symm (congrArg (fun (z : Bool × S7) => bI z.1) eF).symm dL_acts_283
          ·
            refine lv_aload_n hx hb dL_acts_178 rfl (lv_at hl 2 rfl) ?_
            refine lv_iconst (v := 0) hx hb dL_acts_179 (by decide) ?_
            refine k_vld S hK hW 1 rfl (i := 0) (k := 0) (x := v.1) vi7_0 ix_0 rfl dL_acts_180 ?_
            refine lv_iconst (v := 2) hx hb dL_acts_181 (by decide) ?_
            refine lv_icmp_ne (tgt := 234) hx hb dL_acts_182 (by decide) (fun c_10 => ?_) (fun c_10 => ?_)
            ·
              refine lv_iload_n hx hb dL_acts_234 rfl (lv_at hl 3 rfl) ?_
              refine lv_iconst (v := 5) hx hb dL_acts_235 (by decide) ?_
              refine lv_icmp_ne (tgt := 284) hx hb dL_acts_236 (by decide) (fun c_11 => ?_) (fun c_11 => ?_)
              ·
                refine lv_iconst (v := 0) hx hb dL_acts_284 (by decide) ?_
                have eF : (F_L_acts w v k x m) = (false, v) := by
                  unfold F_L_acts
                  rw [if_neg c_1, if_neg c_2, if_neg c_3, if_neg c_4, if_pos c_5, if_neg c_10]
                exact k_zret (wf := [aI G (h 18) 5 (nF w), aI G a 7 (pF v)]) S hr hlk hK hW [0, 1] rfl rfl (congrArg (fun (z : Bool × S7) => [aI G (h 18) 5 (nF w), aI G a 7 (pF z.2)]) eF).symm (congrArg (fun (z : Bool × S7) => bI z.1) eF).symm dL_acts_285
              ·
                exact absurd c_11 (by rw [c_5]; decide)
            ·
              refine lv_aload_n hx hb dL_acts_185 rfl (lv_at hl 2 rfl) ?_
              refine lv_iconst (v := 5) hx hb dL_acts_186 (by decide) ?_
              refine k_vld S hK hW 1 rfl (i := 5) (k := 5) (x := v.2.2.2.2.2.1) vi7_5 ix_5 rfl dL_acts_187 ?_
              refine lv_bipush (v := 24) hx hb dL_acts_188 (by decide) ?_
              refine lv_icmp_ge (tgt := 234) hx hb dL_acts_190 (by decide) (fun c_12 => ?_) (fun c_12 => ?_)
              ·
                refine lv_iload_n hx hb dL_acts_234 rfl (lv_at hl 3 rfl) ?_
                refine lv_iconst (v := 5) hx hb dL_acts_235 (by decide) ?_
                refine lv_icmp_ne (tgt := 284) hx hb dL_acts_236 (by decide) (fun c_13 => ?_) (fun c_13 => ?_)
                ·
                  refine lv_iconst (v := 0) hx hb dL_acts_284 (by decide) ?_
                  have eF : (F_L_acts w v k x m) = (false, v) := by
                    unfold F_L_acts
                    rw [if_neg c_1, if_neg c_2, if_neg c_3, if_neg c_4, if_pos c_5, if_pos c_10, if_pos c_12]
                  exact k_zret (wf := [aI G (h 18) 5 (nF w), aI G a 7 (pF v)]) S hr hlk hK hW [0, 1] rfl rfl (congrArg (fun (z : Bool × S7) => [aI G (h 18) 5 (nF w), aI G a 7 (pF z.2)]) eF).symm (congrArg (fun (z : Bool × S7) => bI z.1) eF).symm dL_acts_285
                ·
                  exact absurd c_13 (by rw [c_5]; decide)
              ·
                refine lv_iload_n hx hb dL_acts_193 rfl (lv_at hl 4 rfl) ?_
                refine lv_aload_n hx hb dL_acts_194 rfl (lv_at hl 2 rfl) ?_
                refine lv_iconst (v := 3) hx hb dL_acts_195 (by decide) ?_
                refine k_vld S hK hW 1 rfl (i := 3) (k := 3) (x := v.2.2.2.1) vi7_3 ix_3 rfl dL_acts_196 ?_
                refine lv_sipush (v := 500) hx hb dL_acts_197 (by decide) ?_
                refine lv_aload_n hx hb dL_acts_200 rfl (lv_at hl 2 rfl) ?_
                refine lv_iconst (v := 5) hx hb dL_acts_201 (by decide) ?_
                refine k_vld S hK hW 1 rfl (i := 5) (k := 5) (x := v.2.2.2.2.2.1) vi7_5 ix_5 rfl dL_acts_202 ?_
                refine lv_imul hx hb dL_acts_203 ?_
                refine lv_iadd hx hb dL_acts_204 ?_
                refine lv_icmp_lt (tgt := 234) hx hb dL_acts_205 (by decide) (fun c_14 => ?_) (fun c_14 => ?_)
                ·
                  refine lv_iload_n hx hb dL_acts_234 rfl (lv_at hl 3 rfl) ?_
                  refine lv_iconst (v := 5) hx hb dL_acts_235 (by decide) ?_
                  refine lv_icmp_ne (tgt := 284) hx hb dL_acts_236 (by decide) (fun c_15 => ?_) (fun c_15 => ?_)
                  ·
                    refine lv_iconst (v := 0) hx hb dL_acts_284 (by decide) ?_
                    have eF : (F_L_acts w v k x m) = (false, v) := by
                      unfold F_L_acts
                      rw [if_neg c_1, if_neg c_2, if_neg c_3, if_neg c_4, if_pos c_5, if_pos c_10, if_neg c_12, if_pos c_14]
                    exact k_zret (wf := [aI G (h 18) 5 (nF w), aI G a 7 (pF v)]) S hr hlk hK hW [0, 1] rfl rfl (congrArg (fun (z : Bool × S7) => [aI G (h 18) 5 (nF w), aI G a 7 (pF z.2)]) eF).symm (congrArg (fun (z : Bool × S7) => bI z.1) eF).symm dL_acts_285
                  ·
                    exact absurd c_15 (by rw [c_5]; decide)
                ·
                  refine lv_aload_n hx hb dL_acts_208 rfl (lv_at hl 2 rfl) ?_
                  refine lv_iconst (v := 1) hx hb dL_acts_209 (by decide) ?_
                  refine lv_iload_n hx hb dL_acts_210 rfl (lv_at hl 4 rfl) ?_
                  refine lv_aload_n hx hb dL_acts_211 rfl (lv_at hl 2 rfl) ?_
                  refine lv_iconst (v := 3) hx hb dL_acts_212 (by decide) ?_
                  refine k_vld S hK hW 1 rfl (i := 3) (k := 3) (x := v.2.2.2.1) vi7_3 ix_3 rfl dL_acts_213 ?_
                  refine lv_isub hx hb dL_acts_214 ?_
                  refine lv_sipush (v := 500) hx hb dL_acts_215 (by decide) ?_
                  refine lv_aload_n hx hb dL_acts_218 rfl (lv_at hl 2 rfl) ?_
                  refine lv_iconst (v := 5) hx hb dL_acts_219 (by decide) ?_
                  refine k_vld S hK hW 1 rfl (i := 5) (k := 5) (x := v.2.2.2.2.2.1) vi7_5 ix_5 rfl dL_acts_220 ?_
                  refine lv_imul hx hb dL_acts_221 ?_
                  refine lv_isub hx hb dL_acts_222 ?_
                  refine lv_topi (fun z_16 ez_16 => ?_)
                  refine k_vst (f' := pF (v.1, z_16, v.2.2.1, v.2.2.2.1, v.2.2.2.2.1, v.2.2.2.2.2.1, v.2.2.2.2.2.2)) (ws' := [aI G (h 18) 5 (nF w), aI G a 7 (pF (v.1, z_16, v.2.2.1, v.2.2.2.1, v.2.2.2.2.1, v.2.2.2.2.2.1, v.2.2.2.2.2.2))]) S hK hW 1 rfl (i := 1) (k := 1) vi7_1 ix_1 (up_p1 _ _) rfl dL_acts_223 (fun H locs hW => ?_)
                  refine lv_aload_n hx hb dL_acts_224 rfl (lv_at hl 2 rfl) ?_
                  refine lv_iconst (v := 3) hx hb dL_acts_225 (by decide) ?_
                  refine lv_iconst (v := 0) hx hb dL_acts_226 (by decide) ?_
                  refine k_vst (f' := pF (v.1, z_16, v.2.2.1, 0, v.2.2.2.2.1, v.2.2.2.2.2.1, v.2.2.2.2.2.2)) (ws' := [aI G (h 18) 5 (nF w), aI G a 7 (pF (v.1, z_16, v.2.2.1, 0, v.2.2.2.2.1, v.2.2.2.2.2.1, v.2.2.2.2.2.2))]) S hK hW 1 rfl (i := 3) (k := 3) vi7_3 ix_3 (up_p3 _ _) rfl dL_acts_227 (fun H locs hW => ?_)
                  refine lv_aload_n hx hb dL_acts_228 rfl (lv_at hl 2 rfl) ?_
                  refine lv_iconst (v := 0) hx hb dL_acts_229 (by decide) ?_
                  refine lv_iconst (v := 0) hx hb dL_acts_230 (by decide) ?_
                  refine k_vst (f' := pF (0, z_16, v.2.2.1, 0, v.2.2.2.2.1, v.2.2.2.2.2.1, v.2.2.2.2.2.2)) (ws' := [aI G (h 18) 5 (nF w), aI G a 7 (pF (0, z_16, v.2.2.1, 0, v.2.2.2.2.1, v.2.2.2.2.2.1, v.2.2.2.2.2.2))]) S hK hW 1 rfl (i := 0) (k := 0) vi7_0 ix_0 (up_p0 _ _) rfl dL_acts_231 (fun H locs hW => ?_)
                  refine lv_iconst (v := 1) hx hb dL_acts_232 (by decide) ?_
                  have hW9 := hW
                  have hl9 := hl
                  subst ez_16
                  have eF : (F_L_acts w v k x m) = (true, (0, ((x - v.2.2.2.1) - (500 * v.2.2.2.2.2.1)), v.2.2.1, 0, v.2.2.2.2.1, v.2.2.2.2.2.1, v.2.2.2.2.2.2)) := by
                    unfold F_L_acts
                    rw [if_neg c_1, if_neg c_2, if_neg c_3, if_neg c_4, if_pos c_5, if_pos c_10, if_neg c_12, if_neg c_14]
                  exact k_zret (wf := [aI G (h 18) 5 (nF w), aI G a 7 (pF (0, ((x - v.2.2.2.1) - (500 * v.2.2.2.2.2.1)), v.2.2.1, 0, v.2.2.2.2.1, v.2.2.2.2.2.1, v.2.2.2.2.2.2))]) S hr hlk hK hW9 [0, 1] rfl rfl (congrArg (fun (z : Bool × S7) => [aI G (h 18) 5 (nF w), aI G a 7 (pF z.2)]) eF).symm (congrArg (fun (z : Bool × S7) => bI z.1) eF).symm dL_acts_233
        ·
          refine lv_aload_n hx hb dL_acts_152 rfl (lv_at hl 2 rfl) ?_
          refine lv_iconst (v := 0) hx hb dL_acts_153 (by decide) ?_
          refine k_vld S hK hW 1 rfl (i := 0) (k := 0) (x := v.1) vi7_0 ix_0 rfl dL_acts_154 ?_
          refine lv_if_ne (tgt := 173) hx hb dL_acts_155 (by decide) (fun c_17 => ?_) (fun c_17 => ?_)
          ·
            refine lv_iload_n hx hb dL_acts_173 rfl (lv_at hl 3 rfl) ?_
            refine lv_iconst (v := 4) hx hb dL_acts_174 (by decide) ?_
            refine lv_icmp_ne (tgt := 234) hx hb dL_acts_175 (by decide) (fun c_18 => ?_) (fun c_18 => ?_)
            ·
              refine lv_iload_n hx hb dL_acts_234 rfl (lv_at hl 3 rfl) ?_
              refine lv_iconst (v := 5) hx hb dL_acts_235 (by decide) ?_
              refine lv_icmp_ne (tgt := 284) hx hb dL_acts_236 (by decide) (fun c_19 => ?_) (fun c_19 => ?_)
              ·
                refine lv_iconst (v := 0) hx hb dL_acts_284 (by decide) ?_
                have eF : (F_L_acts w v k x m) = (false, v) := by
                  unfold F_L_acts
                  rw [if_neg c_1, if_neg c_2, if_neg c_3, if_pos c_4, if_neg c_17]
                exact k_zret (wf := [aI G (h 18) 5 (nF w), aI G a 7 (pF v)]) S hr hlk hK hW [0, 1] rfl rfl (congrArg (fun (z : Bool × S7) => [aI G (h 18) 5 (nF w), aI G a 7 (pF z.2)]) eF).symm (congrArg (fun (z : Bool × S7) => bI z.1) eF).symm dL_acts_285
              ·
                exact absurd c_19 (by rw [c_4]; decide)
            ·
              exact absurd c_18 (by rw [c_4]; decide)
          ·
            refine lv_iload_n hx hb dL_acts_158 rfl (lv_at hl 4 rfl) ?_
            refine lv_iload hx hb dL_acts_159 (lv_at hl 0 rfl) ?_
            refine lv_icmp_gt (tgt := 173) hx hb dL_acts_161 (by decide) (fun c_20 => ?_) (fun c_20 => ?_)
            ·
              refine lv_iload_n hx hb dL_acts_173 rfl (lv_at hl 3 rfl) ?_
              refine lv_iconst (v := 4) hx hb dL_acts_174 (by decide) ?_
              refine lv_icmp_ne (tgt := 234) hx hb dL_acts_175 (by decide) (fun c_21 => ?_) (fun c_21 => ?_)
              ·
                refine lv_iload_n hx hb dL_acts_234 rfl (lv_at hl 3 rfl) ?_
                refine lv_iconst (v := 5) hx hb dL_acts_235 (by decide) ?_
                refine lv_icmp_ne (tgt := 284) hx hb dL_acts_236 (by decide) (fun c_22 => ?_) (fun c_22 => ?_)
                ·
                  refine lv_iconst (v := 0) hx hb dL_acts_284 (by decide) ?_
                  have eF : (F_L_acts w v k x m) = (false, v) := by
                    unfold F_L_acts
                    rw [if_neg c_1, if_neg c_2, if_neg c_3, if_pos c_4, if_pos c_17, if_pos c_20]
                  exact k_zret (wf := [aI G (h 18) 5 (nF w), aI G a 7 (pF v)]) S hr hlk hK hW [0, 1] rfl rfl (congrArg (fun (z : Bool × S7) => [aI G (h 18) 5 (nF w), aI G a 7 (pF z.2)]) eF).symm (congrArg (fun (z : Bool × S7) => bI z.1) eF).symm dL_acts_285
                ·
                  exact absurd c_22 (by rw [c_4]; decide)
              ·
                exact absurd c_21 (by rw [c_4]; decide)
            ·
              refine lv_aload_n hx hb dL_acts_164 rfl (lv_at hl 2 rfl) ?_
              refine lv_iconst (v := 1) hx hb dL_acts_165 (by decide) ?_
              refine lv_dup2_11 hx hb dL_acts_166 rfl rfl ?_
              refine k_vld S hK hW 1 rfl (i := 1) (k := 1) (x := v.2.1) vi7_1 ix_1 rfl dL_acts_167 ?_
              refine lv_iload_n hx hb dL_acts_168 rfl (lv_at hl 4 rfl) ?_
              refine lv_isub hx hb dL_acts_169 ?_
              refine lv_topi (fun z_23 ez_23 => ?_)
              refine k_vst (f' := pF (v.1, z_23, v.2.2.1, v.2.2.2.1, v.2.2.2.2.1, v.2.2.2.2.2.1, v.2.2.2.2.2.2)) (ws' := [aI G (h 18) 5 (nF w), aI G a 7 (pF (v.1, z_23, v.2.2.1, v.2.2.2.1, v.2.2.2.2.1, v.2.2.2.2.2.1, v.2.2.2.2.2.2))]) S hK hW 1 rfl (i := 1) (k := 1) vi7_1 ix_1 (up_p1 _ _) rfl dL_acts_170 (fun H locs hW => ?_)
              refine lv_iconst (v := 1) hx hb dL_acts_171 (by decide) ?_
              have hW9 := hW
              have hl9 := hl
              subst ez_23
              have eF : (F_L_acts w v k x m) = (true, (v.1, (v.2.1 - x), v.2.2.1, v.2.2.2.1, v.2.2.2.2.1, v.2.2.2.2.2.1, v.2.2.2.2.2.2)) := by
                unfold F_L_acts
                rw [if_neg c_1, if_neg c_2, if_neg c_3, if_pos c_4, if_pos c_17, if_neg c_20]
              exact k_zret (wf := [aI G (h 18) 5 (nF w), aI G a 7 (pF (v.1, (v.2.1 - x), v.2.2.1, v.2.2.2.1, v.2.2.2.2.1, v.2.2.2.2.2.1, v.2.2.2.2.2.2))]) S hr hlk hK hW9 [0, 1] rfl rfl (congrArg (fun (z : Bool × S7) => [aI G (h 18) 5 (nF w), aI G a 7 (pF z.2)]) eF).symm (congrArg (fun (z : Bool × S7) => bI z.1) eF).symm dL_acts_172
      ·
        refine lv_aload_n hx hb dL_acts_124 rfl (lv_at hl 2 rfl) ?_
        refine lv_iconst (v := 0) hx hb dL_acts_125 (by decide) ?_
        refine k_vld S hK hW 1 rfl (i := 0) (k := 0) (x := v.1) vi7_0 ix_0 rfl dL_acts_126 ?_
        refine lv_iconst (v := 2) hx hb dL_acts_127 (by decide) ?_
        refine lv_icmp_ge (tgt := 147) hx hb dL_acts_128 (by decide) (fun c_24 => ?_) (fun c_24 => ?_)
        ·
          refine lv_iload_n hx hb dL_acts_147 rfl (lv_at hl 3 rfl) ?_
          refine lv_iconst (v := 3) hx hb dL_acts_148 (by decide) ?_
          refine lv_icmp_ne (tgt := 173) hx hb dL_acts_149 (by decide) (fun c_25 => ?_) (fun c_25 => ?_)
          ·
            refine lv_iload_n hx hb dL_acts_173 rfl (lv_at hl 3 rfl) ?_
            refine lv_iconst (v := 4) hx hb dL_acts_174 (by decide) ?_
            refine lv_icmp_ne (tgt := 234) hx hb dL_acts_175 (by decide) (fun c_26 => ?_) (fun c_26 => ?_)
            ·
              refine lv_iload_n hx hb dL_acts_234 rfl (lv_at hl 3 rfl) ?_
              refine lv_iconst (v := 5) hx hb dL_acts_235 (by decide) ?_
              refine lv_icmp_ne (tgt := 284) hx hb dL_acts_236 (by decide) (fun c_27 => ?_) (fun c_27 => ?_)
              ·
                refine lv_iconst (v := 0) hx hb dL_acts_284 (by decide) ?_
                have eF : (F_L_acts w v k x m) = (false, v) := by
                  unfold F_L_acts
                  rw [if_neg c_1, if_neg c_2, if_pos c_3, if_pos c_24]
                exact k_zret (wf := [aI G (h 18) 5 (nF w), aI G a 7 (pF v)]) S hr hlk hK hW [0, 1] rfl rfl (congrArg (fun (z : Bool × S7) => [aI G (h 18) 5 (nF w), aI G a 7 (pF z.2)]) eF).symm (congrArg (fun (z : Bool × S7) => bI z.1) eF).symm dL_acts_285
              ·
                exact absurd c_27 (by rw [c_3]; decide)
            ·
              exact absurd c_26 (by rw [c_3]; decide)
          ·
            exact absurd c_25 (by rw [c_3]; decide)
        ·
          refine lv_iload_n hx hb dL_acts_131 rfl (lv_at hl 4 rfl) ?_
          refine lv_aload_n hx hb dL_acts_132 rfl (lv_at hl 2 rfl) ?_
          refine lv_iconst (v := 2) hx hb dL_acts_133 (by decide) ?_
          refine k_vld S hK hW 1 rfl (i := 2) (k := 2) (x := v.2.2.1) vi7_2 ix_2 rfl dL_acts_134 ?_
          refine lv_icmp_gt (tgt := 147) hx hb dL_acts_135 (by decide) (fun c_28 => ?_) (fun c_28 => ?_)
          ·
            refine lv_iload_n hx hb dL_acts_147 rfl (lv_at hl 3 rfl) ?_
            refine lv_iconst (v := 3) hx hb dL_acts_148 (by decide) ?_
            refine lv_icmp_ne (tgt := 173) hx hb dL_acts_149 (by decide) (fun c_29 => ?_) (fun c_29 => ?_)
            ·
              refine lv_iload_n hx hb dL_acts_173 rfl (lv_at hl 3 rfl) ?_
              refine lv_iconst (v := 4) hx hb dL_acts_174 (by decide) ?_
              refine lv_icmp_ne (tgt := 234) hx hb dL_acts_175 (by decide) (fun c_30 => ?_) (fun c_30 => ?_)
              ·
                refine lv_iload_n hx hb dL_acts_234 rfl (lv_at hl 3 rfl) ?_
                refine lv_iconst (v := 5) hx hb dL_acts_235 (by decide) ?_
                refine lv_icmp_ne (tgt := 284) hx hb dL_acts_236 (by decide) (fun c_31 => ?_) (fun c_31 => ?_)
                ·
                  refine lv_iconst (v := 0) hx hb dL_acts_284 (by decide) ?_
                  have eF : (F_L_acts w v k x m) = (false, v) := by
                    unfold F_L_acts
                    rw [if_neg c_1, if_neg c_2, if_pos c_3, if_neg c_24, if_pos c_28]
                  exact k_zret (wf := [aI G (h 18) 5 (nF w), aI G a 7 (pF v)]) S hr hlk hK hW [0, 1] rfl rfl (congrArg (fun (z : Bool × S7) => [aI G (h 18) 5 (nF w), aI G a 7 (pF z.2)]) eF).symm (congrArg (fun (z : Bool × S7) => bI z.1) eF).symm dL_acts_285
                ·
                  exact absurd c_31 (by rw [c_3]; decide)
              ·
                exact absurd c_30 (by rw [c_3]; decide)
            ·
              exact absurd c_29 (by rw [c_3]; decide)
          ·
            refine lv_aload_n hx hb dL_acts_138 rfl (lv_at hl 2 rfl) ?_
            refine lv_iconst (v := 2) hx hb dL_acts_139 (by decide) ?_
            refine lv_dup2_11 hx hb dL_acts_140 rfl rfl ?_
            refine k_vld S hK hW 1 rfl (i := 2) (k := 2) (x := v.2.2.1) vi7_2 ix_2 rfl dL_acts_141 ?_
            refine lv_iload_n hx hb dL_acts_142 rfl (lv_at hl 4 rfl) ?_
            refine lv_isub hx hb dL_acts_143 ?_
            refine lv_topi (fun z_32 ez_32 => ?_)
            refine k_vst (f' := pF (v.1, v.2.1, z_32, v.2.2.2.1, v.2.2.2.2.1, v.2.2.2.2.2.1, v.2.2.2.2.2.2)) (ws' := [aI G (h 18) 5 (nF w), aI G a 7 (pF (v.1, v.2.1, z_32, v.2.2.2.1, v.2.2.2.2.1, v.2.2.2.2.2.1, v.2.2.2.2.2.2))]) S hK hW 1 rfl (i := 2) (k := 2) vi7_2 ix_2 (up_p2 _ _) rfl dL_acts_144 (fun H locs hW => ?_)
            refine lv_iconst (v := 1) hx hb dL_acts_145 (by decide) ?_
            have hW9 := hW
            have hl9 := hl
            subst ez_32
            have eF : (F_L_acts w v k x m) = (true, (v.1, v.2.1, (v.2.2.1 - x), v.2.2.2.1, v.2.2.2.2.1, v.2.2.2.2.2.1, v.2.2.2.2.2.2)) := by
              unfold F_L_acts
              rw [if_neg c_1, if_neg c_2, if_pos c_3, if_neg c_24, if_neg c_28]
            exact k_zret (wf := [aI G (h 18) 5 (nF w), aI G a 7 (pF (v.1, v.2.1, (v.2.2.1 - x), v.2.2.2.1, v.2.2.2.2.1, v.2.2.2.2.2.1, v.2.2.2.2.2.2))]) S hr hlk hK hW9 [0, 1] rfl rfl (congrArg (fun (z : Bool × S7) => [aI G (h 18) 5 (nF w), aI G a 7 (pF z.2)]) eF).symm (congrArg (fun (z : Bool × S7) => bI z.1) eF).symm dL_acts_146
    ·
      refine lv_aload_n hx hb dL_acts_98 rfl (lv_at hl 2 rfl) ?_
      refine lv_iconst (v := 0) hx hb dL_acts_99 (by decide) ?_
      refine k_vld S hK hW 1 rfl (i := 0) (k := 0) (x := v.1) vi7_0 ix_0 rfl dL_acts_100 ?_
      refine lv_if_ne (tgt := 119) hx hb dL_acts_101 (by decide) (fun c_33 => ?_) (fun c_33 => ?_)
      ·
        refine lv_iload_n hx hb dL_acts_119 rfl (lv_at hl 3 rfl) ?_
        refine lv_iconst (v := 2) hx hb dL_acts_120 (by decide) ?_
        refine lv_icmp_ne (tgt := 147) hx hb dL_acts_121 (by decide) (fun c_34 => ?_) (fun c_34 => ?_)
        ·
          refine lv_iload_n hx hb dL_acts_147 rfl (lv_at hl 3 rfl) ?_
          refine lv_iconst (v := 3) hx hb dL_acts_148 (by decide) ?_
          refine lv_icmp_ne (tgt := 173) hx hb dL_acts_149 (by decide) (fun c_35 => ?_) (fun c_35 => ?_)
          ·
            refine lv_iload_n hx hb dL_acts_173 rfl (lv_at hl 3 rfl) ?_
            refine lv_iconst (v := 4) hx hb dL_acts_174 (by decide) ?_
            refine lv_icmp_ne (tgt := 234) hx hb dL_acts_175 (by decide) (fun c_36 => ?_) (fun c_36 => ?_)
            ·
              refine lv_iload_n hx hb dL_acts_234 rfl (lv_at hl 3 rfl) ?_
              refine lv_iconst (v := 5) hx hb dL_acts_235 (by decide) ?_
              refine lv_icmp_ne (tgt := 284) hx hb dL_acts_236 (by decide) (fun c_37 => ?_) (fun c_37 => ?_)
              ·
                refine lv_iconst (v := 0) hx hb dL_acts_284 (by decide) ?_
                have eF : (F_L_acts w v k x m) = (false, v) := by
                  unfold F_L_acts
                  rw [if_neg c_1, if_pos c_2, if_neg c_33]
                exact k_zret (wf := [aI G (h 18) 5 (nF w), aI G a 7 (pF v)]) S hr hlk hK hW [0, 1] rfl rfl (congrArg (fun (z : Bool × S7) => [aI G (h 18) 5 (nF w), aI G a 7 (pF z.2)]) eF).symm (congrArg (fun (z : Bool × S7) => bI z.1) eF).symm dL_acts_285
              ·
                exact absurd c_37 (by rw [c_2]; decide)
            ·
              exact absurd c_36 (by rw [c_2]; decide)
          ·
            exact absurd c_35 (by rw [c_2]; decide)
        ·
          exact absurd c_34 (by rw [c_2]; decide)
      ·
        refine lv_iload_n hx hb dL_acts_104 rfl (lv_at hl 4 rfl) ?_
        refine lv_iload hx hb dL_acts_105 (lv_at hl 0 rfl) ?_
        refine lv_icmp_gt (tgt := 119) hx hb dL_acts_107 (by decide) (fun c_38 => ?_) (fun c_38 => ?_)
        ·
          refine lv_iload_n hx hb dL_acts_119 rfl (lv_at hl 3 rfl) ?_
          refine lv_iconst (v := 2) hx hb dL_acts_120 (by decide) ?_
          refine lv_icmp_ne (tgt := 147) hx hb dL_acts_121 (by decide) (fun c_39 => ?_) (fun c_39 => ?_)
          ·
            refine lv_iload_n hx hb dL_acts_147 rfl (lv_at hl 3 rfl) ?_
            refine lv_iconst (v := 3) hx hb dL_acts_148 (by decide) ?_
            refine lv_icmp_ne (tgt := 173) hx hb dL_acts_149 (by decide) (fun c_40 => ?_) (fun c_40 => ?_)
            ·
              refine lv_iload_n hx hb dL_acts_173 rfl (lv_at hl 3 rfl) ?_
              refine lv_iconst (v := 4) hx hb dL_acts_174 (by decide) ?_
              refine lv_icmp_ne (tgt := 234) hx hb dL_acts_175 (by decide) (fun c_41 => ?_) (fun c_41 => ?_)
              ·
                refine lv_iload_n hx hb dL_acts_234 rfl (lv_at hl 3 rfl) ?_
                refine lv_iconst (v := 5) hx hb dL_acts_235 (by decide) ?_
                refine lv_icmp_ne (tgt := 284) hx hb dL_acts_236 (by decide) (fun c_42 => ?_) (fun c_42 => ?_)
                ·
                  refine lv_iconst (v := 0) hx hb dL_acts_284 (by decide) ?_
                  have eF : (F_L_acts w v k x m) = (false, v) := by
                    unfold F_L_acts
                    rw [if_neg c_1, if_pos c_2, if_pos c_33, if_pos c_38]
                  exact k_zret (wf := [aI G (h 18) 5 (nF w), aI G a 7 (pF v)]) S hr hlk hK hW [0, 1] rfl rfl (congrArg (fun (z : Bool × S7) => [aI G (h 18) 5 (nF w), aI G a 7 (pF z.2)]) eF).symm (congrArg (fun (z : Bool × S7) => bI z.1) eF).symm dL_acts_285
                ·
                  exact absurd c_42 (by rw [c_2]; decide)
              ·
                exact absurd c_41 (by rw [c_2]; decide)
            ·
              exact absurd c_40 (by rw [c_2]; decide)
          ·
            exact absurd c_39 (by rw [c_2]; decide)
        ·
          refine lv_aload_n hx hb dL_acts_110 rfl (lv_at hl 2 rfl) ?_
          refine lv_iconst (v := 2) hx hb dL_acts_111 (by decide) ?_
          refine lv_dup2_11 hx hb dL_acts_112 rfl rfl ?_
          refine k_vld S hK hW 1 rfl (i := 2) (k := 2) (x := v.2.2.1) vi7_2 ix_2 rfl dL_acts_113 ?_
          refine lv_iload_n hx hb dL_acts_114 rfl (lv_at hl 4 rfl) ?_
          refine lv_iadd hx hb dL_acts_115 ?_
          refine lv_topi (fun z_43 ez_43 => ?_)
          refine k_vst (f' := pF (v.1, v.2.1, z_43, v.2.2.2.1, v.2.2.2.2.1, v.2.2.2.2.2.1, v.2.2.2.2.2.2)) (ws' := [aI G (h 18) 5 (nF w), aI G a 7 (pF (v.1, v.2.1, z_43, v.2.2.2.1, v.2.2.2.2.1, v.2.2.2.2.2.1, v.2.2.2.2.2.2))]) S hK hW 1 rfl (i := 2) (k := 2) vi7_2 ix_2 (up_p2 _ _) rfl dL_acts_116 (fun H locs hW => ?_)
          refine lv_iconst (v := 1) hx hb dL_acts_117 (by decide) ?_
          have hW9 := hW
          have hl9 := hl
          subst ez_43
          have eF : (F_L_acts w v k x m) = (true, (v.1, v.2.1, (v.2.2.1 + x), v.2.2.2.1, v.2.2.2.2.1, v.2.2.2.2.2.1, v.2.2.2.2.2.2)) := by
            unfold F_L_acts
            rw [if_neg c_1, if_pos c_2, if_pos c_33, if_neg c_38]
          exact k_zret (wf := [aI G (h 18) 5 (nF w), aI G a 7 (pF (v.1, v.2.1, (v.2.2.1 + x), v.2.2.2.1, v.2.2.2.2.1, v.2.2.2.2.2.1, v.2.2.2.2.2.2))]) S hr hlk hK hW9 [0, 1] rfl rfl (congrArg (fun (z : Bool × S7) => [aI G (h 18) 5 (nF w), aI G a 7 (pF z.2)]) eF).symm (congrArg (fun (z : Bool × S7) => bI z.1) eF).symm dL_acts_118
  ·
    refine lv_aload_n hx hb dL_acts_13 rfl (lv_at hl 2 rfl) ?_
    refine lv_iconst (v := 0) hx hb dL_acts_14 (by decide) ?_
    refine k_vld S hK hW 1 rfl (i := 0) (k := 0) (x := v.1) vi7_0 ix_0 rfl dL_acts_15 ?_
    refine lv_iconst (v := 2) hx hb dL_acts_16 (by decide) ?_
    refine lv_icmp_ge (tgt := 93) hx hb dL_acts_17 (by decide) (fun c_44 => ?_) (fun c_44 => ?_)
    ·
      refine lv_iload_n hx hb dL_acts_93 rfl (lv_at hl 3 rfl) ?_
      refine lv_iconst (v := 1) hx hb dL_acts_94 (by decide) ?_
      refine lv_icmp_ne (tgt := 119) hx hb dL_acts_95 (by decide) (fun c_45 => ?_) (fun c_45 => ?_)
      ·
        refine lv_iload_n hx hb dL_acts_119 rfl (lv_at hl 3 rfl) ?_
        refine lv_iconst (v := 2) hx hb dL_acts_120 (by decide) ?_
        refine lv_icmp_ne (tgt := 147) hx hb dL_acts_121 (by decide) (fun c_46 => ?_) (fun c_46 => ?_)
        ·
          refine lv_iload_n hx hb dL_acts_147 rfl (lv_at hl 3 rfl) ?_
          refine lv_iconst (v := 3) hx hb dL_acts_148 (by decide) ?_
          refine lv_icmp_ne (tgt := 173) hx hb dL_acts_149 (by decide) (fun c_47 => ?_) (fun c_47 => ?_)
          ·
            refine lv_iload_n hx hb dL_acts_173 rfl (lv_at hl 3 rfl) ?_
            refine lv_iconst (v := 4) hx hb dL_acts_174 (by decide) ?_
            refine lv_icmp_ne (tgt := 234) hx hb dL_acts_175 (by decide) (fun c_48 => ?_) (fun c_48 => ?_)
            ·
              refine lv_iload_n hx hb dL_acts_234 rfl (lv_at hl 3 rfl) ?_
              refine lv_iconst (v := 5) hx hb dL_acts_235 (by decide) ?_
              refine lv_icmp_ne (tgt := 284) hx hb dL_acts_236 (by decide) (fun c_49 => ?_) (fun c_49 => ?_)
              ·
                refine lv_iconst (v := 0) hx hb dL_acts_284 (by decide) ?_
                have eF : (F_L_acts w v k x m) = (false, v) := by
                  unfold F_L_acts
                  rw [if_pos c_1, if_pos c_44]
                exact k_zret (wf := [aI G (h 18) 5 (nF w), aI G a 7 (pF v)]) S hr hlk hK hW [0, 1] rfl rfl (congrArg (fun (z : Bool × S7) => [aI G (h 18) 5 (nF w), aI G a 7 (pF z.2)]) eF).symm (congrArg (fun (z : Bool × S7) => bI z.1) eF).symm dL_acts_285
              ·
                exact absurd c_49 (by rw [c_1]; decide)
            ·
              exact absurd c_48 (by rw [c_1]; decide)
          ·
            exact absurd c_47 (by rw [c_1]; decide)
        ·
          exact absurd c_46 (by rw [c_1]; decide)
      ·
        exact absurd c_45 (by rw [c_1]; decide)
    ·
      refine lv_iload_n hx hb dL_acts_20 rfl (lv_at hl 4 rfl) ?_
      refine lv_aload_n hx hb dL_acts_21 rfl (lv_at hl 2 rfl) ?_
      refine lv_iconst (v := 3) hx hb dL_acts_22 (by decide) ?_
      refine k_vld S hK hW 1 rfl (i := 3) (k := 3) (x := v.2.2.2.1) vi7_3 ix_3 rfl dL_acts_23 ?_
      refine lv_isub hx hb dL_acts_24 ?_
      refine lv_istore (lv' := [(6, .int (x - v.2.2.2.1)), (5, .int (v.2.1 - v.2.2.1)), (0, .ref (h 18)), (1, .ref a), (2, .int k), (3, .int x), (4, .int m)]) hx hb dL_acts_25 hl (by decide) rfl (fun ls hl => ?_)
      refine lv_aload_n hx hb dL_acts_27 rfl (lv_at hl 3 rfl) ?_
      refine lv_iconst (v := 3) hx hb dL_acts_28 (by decide) ?_
      refine lv_iload hx hb dL_acts_29 (lv_at hl 0 rfl) ?_
      refine lv_if_ge (tgt := 40) hx hb dL_acts_31 (by decide) (fun c_50 => ?_) (fun c_50 => ?_)
      ·
        refine lv_iconst (v := 0) hx hb dL_acts_40 (by decide) ?_
        refine k_vst (f' := pF (v.1, v.2.1, v.2.2.1, 0, v.2.2.2.2.1, v.2.2.2.2.2.1, v.2.2.2.2.2.2)) (ws' := [aI G (h 18) 5 (nF w), aI G a 7 (pF (v.1, v.2.1, v.2.2.1, 0, v.2.2.2.2.1, v.2.2.2.2.2.1, v.2.2.2.2.2.2))]) S hK hW 1 rfl (i := 3) (k := 3) vi7_3 ix_3 (up_p3 _ _) rfl dL_acts_41 (fun H locs hW => ?_)
        refine lv_aload_n hx hb dL_acts_42 rfl (lv_at hl 3 rfl) ?_
        refine lv_iconst (v := 1) hx hb dL_acts_43 (by decide) ?_
        refine lv_dup2_11 hx hb dL_acts_44 rfl rfl ?_
        refine k_vld S hK hW 1 rfl (i := 1) (k := 1) (x := v.2.1) vi7_1 ix_1 rfl dL_acts_45 ?_
        refine lv_iload hx hb dL_acts_46 (lv_at hl 0 rfl) ?_
        refine lv_if_ge (tgt := 55) hx hb dL_acts_48 (by decide) (fun c_51 => ?_) (fun c_51 => ?_)
        ·
          refine lv_iload hx hb dL_acts_55 (lv_at hl 0 rfl) ?_
          refine lv_iadd hx hb dL_acts_57 ?_
          refine lv_topi (fun z_52 ez_52 => ?_)
          refine k_vst (f' := pF (v.1, z_52, v.2.2.1, 0, v.2.2.2.2.1, v.2.2.2.2.2.1, v.2.2.2.2.2.2)) (ws' := [aI G (h 18) 5 (nF w), aI G a 7 (pF (v.1, z_52, v.2.2.1, 0, v.2.2.2.2.1, v.2.2.2.2.2.1, v.2.2.2.2.2.2))]) S hK hW 1 rfl (i := 1) (k := 1) vi7_1 ix_1 (up_p1 _ _) rfl dL_acts_58 (fun H locs hW => ?_)
          refine lv_aload_n hx hb dL_acts_59 rfl (lv_at hl 3 rfl) ?_
          refine lv_iconst (v := 0) hx hb dL_acts_60 (by decide) ?_
          refine lv_aload_n hx hb dL_acts_61 rfl (lv_at hl 3 rfl) ?_
          refine lv_iconst (v := 3) hx hb dL_acts_62 (by decide) ?_
          refine k_vld S hK hW 1 rfl (i := 3) (k := 3) (x := 0) vi7_3 ix_3 rfl dL_acts_63 ?_
          refine lv_if_ne (tgt := 71) hx hb dL_acts_64 (by decide) (fun c_53 => ?_) (fun c_53 => ?_)
          ·
            exact absurd c_53 (by decide)
          ·
            refine lv_iconst (v := 0) hx hb dL_acts_67 (by decide) ?_
            refine lv_goto (tgt := 74) hx hb dL_acts_68 (by decide) ?_
            refine k_vst (f' := pF (0, z_52, v.2.2.1, 0, v.2.2.2.2.1, v.2.2.2.2.2.1, v.2.2.2.2.2.2)) (ws' := [aI G (h 18) 5 (nF w), aI G a 7 (pF (0, z_52, v.2.2.1, 0, v.2.2.2.2.1, v.2.2.2.2.2.1, v.2.2.2.2.2.2))]) S hK hW 1 rfl (i := 0) (k := 0) vi7_0 ix_0 (up_p0 _ _) rfl dL_acts_74 (fun H locs hW => ?_)
            refine lv_aload_n hx hb dL_acts_75 rfl (lv_at hl 3 rfl) ?_
            refine lv_iconst (v := 4) hx hb dL_acts_76 (by decide) ?_
            refine lv_aload_n hx hb dL_acts_77 rfl (lv_at hl 3 rfl) ?_
            refine lv_iconst (v := 3) hx hb dL_acts_78 (by decide) ?_
            refine k_vld S hK hW 1 rfl (i := 3) (k := 3) (x := 0) vi7_3 ix_3 rfl dL_acts_79 ?_
            refine lv_if_ne (tgt := 87) hx hb dL_acts_80 (by decide) (fun c_54 => ?_) (fun c_54 => ?_)
            ·
              exact absurd c_54 (by decide)
            ·
              refine lv_iconst (v := 0) hx hb dL_acts_83 (by decide) ?_
              refine lv_goto (tgt := 90) hx hb dL_acts_84 (by decide) ?_
              refine k_vst (f' := pF (0, z_52, v.2.2.1, 0, 0, v.2.2.2.2.2.1, v.2.2.2.2.2.2)) (ws' := [aI G (h 18) 5 (nF w), aI G a 7 (pF (0, z_52, v.2.2.1, 0, 0, v.2.2.2.2.2.1, v.2.2.2.2.2.2))]) S hK hW 1 rfl (i := 4) (k := 4) vi7_4 ix_4 (up_p4 _ _) rfl dL_acts_90 (fun H locs hW => ?_)
              refine lv_iconst (v := 1) hx hb dL_acts_91 (by decide) ?_
              have hW9 := hW
              have hl9 := hl
              subst ez_52
              have eF : (F_L_acts w v k x m) = (true, (0, (v.2.1 + (x - v.2.2.2.1)), v.2.2.1, 0, 0, v.2.2.2.2.2.1, v.2.2.2.2.2.2)) := by
                unfold F_L_acts
                rw [if_pos c_1, if_neg c_44, if_pos c_50]
              exact k_zret (wf := [aI G (h 18) 5 (nF w), aI G a 7 (pF (0, (v.2.1 + (x - v.2.2.2.1)), v.2.2.1, 0, 0, v.2.2.2.2.2.1, v.2.2.2.2.2.2))]) S hr hlk hK hW9 [0, 1] rfl rfl (congrArg (fun (z : Bool × S7) => [aI G (h 18) 5 (nF w), aI G a 7 (pF z.2)]) eF).symm (congrArg (fun (z : Bool × S7) => bI z.1) eF).symm dL_acts_92
        ·
          exact absurd c_50 c_51
      ·
        refine lv_iload hx hb dL_acts_34 (lv_at hl 0 rfl) ?_
        refine lv_ineg hx hb dL_acts_36 ?_
        refine lv_goto (tgt := 41) hx hb dL_acts_37 (by decide) ?_
        refine lv_topi (fun z_55 ez_55 => ?_)
        refine k_vst (f' := pF (v.1, v.2.1, v.2.2.1, z_55, v.2.2.2.2.1, v.2.2.2.2.2.1, v.2.2.2.2.2.2)) (ws' := [aI G (h 18) 5 (nF w), aI G a 7 (pF (v.1, v.2.1, v.2.2.1, z_55, v.2.2.2.2.1, v.2.2.2.2.2.1, v.2.2.2.2.2.2))]) S hK hW 1 rfl (i := 3) (k := 3) vi7_3 ix_3 (up_p3 _ _) rfl dL_acts_41 (fun H locs hW => ?_)
        refine lv_aload_n hx hb dL_acts_42 rfl (lv_at hl 3 rfl) ?_
        refine lv_iconst (v := 1) hx hb dL_acts_43 (by decide) ?_
        refine lv_dup2_11 hx hb dL_acts_44 rfl rfl ?_
        refine k_vld S hK hW 1 rfl (i := 1) (k := 1) (x := v.2.1) vi7_1 ix_1 rfl dL_acts_45 ?_
        refine lv_iload hx hb dL_acts_46 (lv_at hl 0 rfl) ?_
        refine lv_if_ge (tgt := 55) hx hb dL_acts_48 (by decide) (fun c_56 => ?_) (fun c_56 => ?_)
        ·
          exact absurd c_56 c_50
        ·
          refine lv_iconst (v := 0) hx hb dL_acts_51 (by decide) ?_
          refine lv_goto (tgt := 57) hx hb dL_acts_52 (by decide) ?_
          refine lv_iadd hx hb dL_acts_57 ?_
          refine lv_topi (fun z_57 ez_57 => ?_)
          refine k_vst (f' := pF (v.1, z_57, v.2.2.1, z_55, v.2.2.2.2.1, v.2.2.2.2.2.1, v.2.2.2.2.2.2)) (ws' := [aI G (h 18) 5 (nF w), aI G a 7 (pF (v.1, z_57, v.2.2.1, z_55, v.2.2.2.2.1, v.2.2.2.2.2.1, v.2.2.2.2.2.2))]) S hK hW 1 rfl (i := 1) (k := 1) vi7_1 ix_1 (up_p1 _ _) rfl dL_acts_58 (fun H locs hW => ?_)
          refine lv_aload_n hx hb dL_acts_59 rfl (lv_at hl 3 rfl) ?_
          refine lv_iconst (v := 0) hx hb dL_acts_60 (by decide) ?_
          refine lv_aload_n hx hb dL_acts_61 rfl (lv_at hl 3 rfl) ?_
          refine lv_iconst (v := 3) hx hb dL_acts_62 (by decide) ?_
          refine k_vld S hK hW 1 rfl (i := 3) (k := 3) (x := z_55) vi7_3 ix_3 rfl dL_acts_63 ?_
          refine lv_if_ne (tgt := 71) hx hb dL_acts_64 (by decide) (fun c_58 => ?_) (fun c_58 => ?_)
          ·
            refine lv_aload_n hx hb dL_acts_71 rfl (lv_at hl 3 rfl) ?_
            refine lv_iconst (v := 0) hx hb dL_acts_72 (by decide) ?_
            refine k_vld S hK hW 1 rfl (i := 0) (k := 0) (x := v.1) vi7_0 ix_0 rfl dL_acts_73 ?_
            refine k_vst (f' := pF (v.1, z_57, v.2.2.1, z_55, v.2.2.2.2.1, v.2.2.2.2.2.1, v.2.2.2.2.2.2)) (ws' := [aI G (h 18) 5 (nF w), aI G a 7 (pF (v.1, z_57, v.2.2.1, z_55, v.2.2.2.2.1, v.2.2.2.2.2.1, v.2.2.2.2.2.2))]) S hK hW 1 rfl (i := 0) (k := 0) vi7_0 ix_0 (up_p0 _ _) rfl dL_acts_74 (fun H locs hW => ?_)
            refine lv_aload_n hx hb dL_acts_75 rfl (lv_at hl 3 rfl) ?_
            refine lv_iconst (v := 4) hx hb dL_acts_76 (by decide) ?_
            refine lv_aload_n hx hb dL_acts_77 rfl (lv_at hl 3 rfl) ?_
            refine lv_iconst (v := 3) hx hb dL_acts_78 (by decide) ?_
            refine k_vld S hK hW 1 rfl (i := 3) (k := 3) (x := z_55) vi7_3 ix_3 rfl dL_acts_79 ?_
            refine lv_if_ne (tgt := 87) hx hb dL_acts_80 (by decide) (fun c_59 => ?_) (fun c_59 => ?_)
            ·
              refine lv_aload_n hx hb dL_acts_87 rfl (lv_at hl 3 rfl) ?_
              refine lv_iconst (v := 4) hx hb dL_acts_88 (by decide) ?_
              refine k_vld S hK hW 1 rfl (i := 4) (k := 4) (x := v.2.2.2.2.1) vi7_4 ix_4 rfl dL_acts_89 ?_
              refine k_vst (f' := pF (v.1, z_57, v.2.2.1, z_55, v.2.2.2.2.1, v.2.2.2.2.2.1, v.2.2.2.2.2.2)) (ws' := [aI G (h 18) 5 (nF w), aI G a 7 (pF (v.1, z_57, v.2.2.1, z_55, v.2.2.2.2.1, v.2.2.2.2.2.1, v.2.2.2.2.2.2))]) S hK hW 1 rfl (i := 4) (k := 4) vi7_4 ix_4 (up_p4 _ _) rfl dL_acts_90 (fun H locs hW => ?_)
              refine lv_iconst (v := 1) hx hb dL_acts_91 (by decide) ?_
              have hW9 := hW
              have hl9 := hl
              subst ez_55
              subst ez_57
              have eF : (F_L_acts w v k x m) = (true, (v.1, (v.2.1 + 0), v.2.2.1, (-(x - v.2.2.2.1)), v.2.2.2.2.1, v.2.2.2.2.2.1, v.2.2.2.2.2.2)) := by
                unfold F_L_acts
                rw [if_pos c_1, if_neg c_44, if_neg c_50, if_neg c_58]
              exact k_zret (wf := [aI G (h 18) 5 (nF w), aI G a 7 (pF (v.1, (v.2.1 + 0), v.2.2.1, (-(x - v.2.2.2.1)), v.2.2.2.2.1, v.2.2.2.2.2.1, v.2.2.2.2.2.2))]) S hr hlk hK hW9 [0, 1] rfl rfl (congrArg (fun (z : Bool × S7) => [aI G (h 18) 5 (nF w), aI G a 7 (pF z.2)]) eF).symm (congrArg (fun (z : Bool × S7) => bI z.1) eF).symm dL_acts_92
            ·
              exact absurd c_59 c_58
          ·
            refine lv_iconst (v := 0) hx hb dL_acts_67 (by decide) ?_
            refine lv_goto (tgt := 74) hx hb dL_acts_68 (by decide) ?_
            refine k_vst (f' := pF (0, z_57, v.2.2.1, z_55, v.2.2.2.2.1, v.2.2.2.2.2.1, v.2.2.2.2.2.2)) (ws' := [aI G (h 18) 5 (nF w), aI G a 7 (pF (0, z_57, v.2.2.1, z_55, v.2.2.2.2.1, v.2.2.2.2.2.1, v.2.2.2.2.2.2))]) S hK hW 1 rfl (i := 0) (k := 0) vi7_0 ix_0 (up_p0 _ _) rfl dL_acts_74 (fun H locs hW => ?_)
            refine lv_aload_n hx hb dL_acts_75 rfl (lv_at hl 3 rfl) ?_
            refine lv_iconst (v := 4) hx hb dL_acts_76 (by decide) ?_
            refine lv_aload_n hx hb dL_acts_77 rfl (lv_at hl 3 rfl) ?_
            refine lv_iconst (v := 3) hx hb dL_acts_78 (by decide) ?_
            refine k_vld S hK hW 1 rfl (i := 3) (k := 3) (x := z_55) vi7_3 ix_3 rfl dL_acts_79 ?_
            refine lv_if_ne (tgt := 87) hx hb dL_acts_80 (by decide) (fun c_60 => ?_) (fun c_60 => ?_)
            ·
              exact absurd c_58 c_60
            ·
              refine lv_iconst (v := 0) hx hb dL_acts_83 (by decide) ?_
              refine lv_goto (tgt := 90) hx hb dL_acts_84 (by decide) ?_
              refine k_vst (f' := pF (0, z_57, v.2.2.1, z_55, 0, v.2.2.2.2.2.1, v.2.2.2.2.2.2)) (ws' := [aI G (h 18) 5 (nF w), aI G a 7 (pF (0, z_57, v.2.2.1, z_55, 0, v.2.2.2.2.2.1, v.2.2.2.2.2.2))]) S hK hW 1 rfl (i := 4) (k := 4) vi7_4 ix_4 (up_p4 _ _) rfl dL_acts_90 (fun H locs hW => ?_)
              refine lv_iconst (v := 1) hx hb dL_acts_91 (by decide) ?_
              have hW9 := hW
              have hl9 := hl
              subst ez_55
              subst ez_57
              have eF : (F_L_acts w v k x m) = (true, (0, (v.2.1 + 0), v.2.2.1, (-(x - v.2.2.2.1)), 0, v.2.2.2.2.2.1, v.2.2.2.2.2.2)) := by
                unfold F_L_acts
                rw [if_pos c_1, if_neg c_44, if_neg c_50, if_pos c_58]
              exact k_zret (wf := [aI G (h 18) 5 (nF w), aI G a 7 (pF (0, (v.2.1 + 0), v.2.2.1, (-(x - v.2.2.2.1)), 0, v.2.2.2.2.2.1, v.2.2.2.2.2.2))]) S hr hlk hK hW9 [0, 1] rfl rfl (congrArg (fun (z : Bool × S7) => [aI G (h 18) 5 (nF w), aI G a 7 (pF z.2)]) eF).symm (congrArg (fun (z : Bool × S7) => bI z.1) eF).symm dL_acts_92
def Lp_L_closes  : Nat → Nat → S7 → S7
  | 0, i, v9 => if v9.2.2.1 ≤ v9.2.1 then (if (lg_cmp ((v9.2.1.toInt64 - v9.2.2.1.toInt64) - 1000000) 0) ≤ 0 then (v9.1, (v9.2.1 + (((v9.2.2.1.toInt64 * 2) + ((v9.2.1.toInt64 - v9.2.2.1.toInt64) * 3)) / 1200).toInt32), (v9.2.2.1 + ((v9.2.2.1.toInt64 * 5) / 1200).toInt32), v9.2.2.2.1, v9.2.2.2.2.1, v9.2.2.2.2.2.1, v9.2.2.2.2.2.2)
    else (v9.1, (v9.2.1 + (((v9.2.2.1.toInt64 * 2) + (3000000 + (((v9.2.1.toInt64 - v9.2.2.1.toInt64) - 1000000) * 4))) / 1200).toInt32), (v9.2.2.1 + ((v9.2.2.1.toInt64 * 5) / 1200).toInt32), v9.2.2.2.1, v9.2.2.2.2.1, v9.2.2.2.2.2.1, v9.2.2.2.2.2.2))
  else (if (lg_cmp ((v9.2.1.toInt64 - v9.2.1.toInt64) - 1000000) 0) ≤ 0 then (v9.1, (v9.2.1 + (((v9.2.1.toInt64 * 2) + ((v9.2.1.toInt64 - v9.2.1.toInt64) * 3)) / 1200).toInt32), (v9.2.2.1 + ((v9.2.2.1.toInt64 * 5) / 1200).toInt32), v9.2.2.2.1, v9.2.2.2.2.1, v9.2.2.2.2.2.1, v9.2.2.2.2.2.2)
    else (v9.1, (v9.2.1 + (((v9.2.1.toInt64 * 2) + (3000000 + (((v9.2.1.toInt64 - v9.2.1.toInt64) - 1000000) * 4))) / 1200).toInt32), (v9.2.2.1 + ((v9.2.2.1.toInt64 * 5) / 1200).toInt32), v9.2.2.2.1, v9.2.2.2.2.1, v9.2.2.2.2.2.1, v9.2.2.2.2.2.2))
  | d + 1, i, v9 => if v9.2.2.1 ≤ v9.2.1 then (if (lg_cmp ((v9.2.1.toInt64 - v9.2.2.1.toInt64) - 1000000) 0) ≤ 0 then (v9.1, (v9.2.1 + (((v9.2.2.1.toInt64 * 2) + ((v9.2.1.toInt64 - v9.2.2.1.toInt64) * 3)) / 1200).toInt32), (v9.2.2.1 + ((v9.2.2.1.toInt64 * 5) / 1200).toInt32), v9.2.2.2.1, v9.2.2.2.2.1, v9.2.2.2.2.2.1, v9.2.2.2.2.2.2)
    else (v9.1, (v9.2.1 + (((v9.2.2.1.toInt64 * 2) + (3000000 + (((v9.2.1.toInt64 - v9.2.2.1.toInt64) - 1000000) * 4))) / 1200).toInt32), (v9.2.2.1 + ((v9.2.2.1.toInt64 * 5) / 1200).toInt32), v9.2.2.2.1, v9.2.2.2.2.1, v9.2.2.2.2.2.1, v9.2.2.2.2.2.2))
  else (if (lg_cmp ((v9.2.1.toInt64 - v9.2.1.toInt64) - 1000000) 0) ≤ 0 then (v9.1, (v9.2.1 + (((v9.2.1.toInt64 * 2) + ((v9.2.1.toInt64 - v9.2.1.toInt64) * 3)) / 1200).toInt32), (v9.2.2.1 + ((v9.2.2.1.toInt64 * 5) / 1200).toInt32), v9.2.2.2.1, v9.2.2.2.2.1, v9.2.2.2.2.2.1, v9.2.2.2.2.2.2)
    else (v9.1, (v9.2.1 + (((v9.2.1.toInt64 * 2) + (3000000 + (((v9.2.1.toInt64 - v9.2.1.toInt64) - 1000000) * 4))) / 1200).toInt32), (v9.2.2.1 + ((v9.2.2.1.toInt64 * 5) / 1200).toInt32), v9.2.2.2.1, v9.2.2.2.2.1, v9.2.2.2.2.2.1, v9.2.2.2.2.2.2))
def F_L_closes (w : S5) (v : S7) (mm : Nat) : S7 :=
  if v.1 = 2 then (v.1, v.2.1, v.2.2.1, v.2.2.2.1, v.2.2.2.2.1, (v.2.2.2.2.2.1 + 1), v.2.2.2.2.2.2)
  else (if v.1 ≤ 1 then (if v.2.1 ≤ v.2.2.1 then (if 0 < ((F_L_charge w (v.1, v.2.1, v.2.2.1, v.2.2.2.1, v.2.2.2.2.1, (v.2.2.2.2.2.1 + 0), v.2.2.2.2.2.2) mm) + v.2.2.2.1) then (if (v.2.2.2.2.1 + 1) = 3 then (2, 0, 0, ((F_L_charge w (v.1, v.2.1, v.2.2.1, v.2.2.2.1, v.2.2.2.2.1, (v.2.2.2.2.2.1 + 0), v.2.2.2.2.2.2) mm) + v.2.2.2.1), 0, 0, v.2.2.2.2.2.2)
          else Lp_L_closes  0 0 (1, (v.2.1 - 0), v.2.2.1, ((F_L_charge w (v.1, v.2.1, v.2.2.1, v.2.2.2.1, v.2.2.2.2.1, (v.2.2.2.2.2.1 + 0), v.2.2.2.2.2.2) mm) + v.2.2.2.1), (v.2.2.2.2.1 + 1), (v.2.2.2.2.2.1 + 0), v.2.2.2.2.2.2))
        else Lp_L_closes  0 0 (0, (v.2.1 - ((F_L_charge w (v.1, v.2.1, v.2.2.1, v.2.2.2.1, v.2.2.2.2.1, (v.2.2.2.2.2.1 + 0), v.2.2.2.2.2.2) mm) + v.2.2.2.1)), v.2.2.1, 0, 0, (v.2.2.2.2.2.1 + 0), v.2.2.2.2.2.2))
      else (if (v.2.1 - v.2.2.1) < ((F_L_charge w (v.1, v.2.1, v.2.2.1, v.2.2.2.1, v.2.2.2.2.1, (v.2.2.2.2.2.1 + 0), v.2.2.2.2.2.2) mm) + v.2.2.2.1) then (if (v.2.2.2.2.1 + 1) = 3 then (2, 0, 0, ((F_L_charge w (v.1, v.2.1, v.2.2.1, v.2.2.2.1, v.2.2.2.2.1, (v.2.2.2.2.2.1 + 0), v.2.2.2.2.2.2) mm) + v.2.2.2.1), 0, 0, v.2.2.2.2.2.2)
          else Lp_L_closes  0 0 (1, (v.2.1 - 0), v.2.2.1, ((F_L_charge w (v.1, v.2.1, v.2.2.1, v.2.2.2.1, v.2.2.2.2.1, (v.2.2.2.2.2.1 + 0), v.2.2.2.2.2.2) mm) + v.2.2.2.1), (v.2.2.2.2.1 + 1), (v.2.2.2.2.2.1 + 0), v.2.2.2.2.2.2))
        else Lp_L_closes  0 0 (0, (v.2.1 - ((F_L_charge w (v.1, v.2.1, v.2.2.1, v.2.2.2.1, v.2.2.2.2.1, (v.2.2.2.2.2.1 + 0), v.2.2.2.2.2.2) mm) + v.2.2.2.1)), v.2.2.1, 0, 0, (v.2.2.2.2.2.1 + 0), v.2.2.2.2.2.2)))
    else (v.1, v.2.1, v.2.2.1, v.2.2.2.1, v.2.2.2.2.1, (v.2.2.2.2.2.1 + 0), v.2.2.2.2.2.2))
set_option maxRecDepth 100000 in
theorem k_L_closes_c25 : Cond.constantLong RL 25 (1000000) ∈ wsL_closes := by decide +kernel
set_option maxRecDepth 100000 in
theorem k_L_closes_c27 : Cond.constantLong RL 27 (2) ∈ wsL_closes := by decide +kernel
set_option maxRecDepth 100000 in
theorem k_L_closes_c33 : Cond.constantLong RL 33 (3) ∈ wsL_closes := by decide +kernel
set_option maxRecDepth 100000 in
theorem k_L_closes_c35 : Cond.constantLong RL 35 (1200) ∈ wsL_closes := by decide +kernel
set_option maxRecDepth 100000 in
theorem k_L_closes_c37 : Cond.constantLong RL 37 (5) ∈ wsL_closes := by decide +kernel
set_option maxRecDepth 100000 in
theorem k_L_closes_c29 : Cond.constantLong RL 29 (3000000) ∈ wsL_closes := by decide +kernel
set_option maxRecDepth 100000 in
theorem k_L_closes_c31 : Cond.constantLong RL 31 (4) ∈ wsL_closes := by decide +kernel
theorem nd_L_closes : yL_closes.cls ≠ "java/lang/invoke/MethodHandle" ∧ yL_closes.cls ≠ "java/lang/invoke/VarHandle" ∧ (parseMethodDescriptor yL_closes.desc).map (fun d => d.parameters.length) = some 3 := by decide +kernel
abbrev rm_L_closes : Room := { frames := 3, cells := 0, slots := 0, locals := 76 }
set_option maxHeartbeats 4000000 in
set_option maxRecDepth 100000 in
theorem c_L_closes (l : Launch) (G : GG) (h : Nat → Nat) (a : Nat) (w : S5) (v : S7) (mm : Nat)  (hw : AG w) (hm : mm ≤ 240) : CV l G yL_closes wsL_closes rm_L_closes [.ref (h 18), .ref a, .int (nI mm)] [aI G (h 18) 5 (nF w), aI G a 7 (pF v)] [aI G (h 18) 5 (nF w), aI G a 7 (pF (F_L_closes w v mm))] := by
  refine CV_of (own := RL) (by decide +kernel) rfl rfl (Nat.le_of_ble_eq_true rfl) ?_
  intro pP eE sS mM args below meth cC A S hK hr hlk hmn hW ls hl
  have hx := S.1
  have hb := S.2.1
  have hl : lv_has ls 11 [(0, .ref (h 18)), (1, .ref a), (2, .int (nI mm))] := hl
  have hW : Wd G A sS.heap [aI G (h 18) 5 (nF w), aI G a 7 (pF v)] sS.heap [] := hW
  have key : ∀ (d i : Nat) (v9 : S7), i + d = 0 → Lp_L_closes  d i v9 = (F_L_closes w v mm) → ∀ (H : Heap) (locs : List Loc) (ls : Array Slot), Wd G A sS.heap [aI G (h 18) 5 (nF w), aI G a 7 (pF v9)] H locs → lv_has ls 11 [(0, .ref (h 18)), (1, .ref a)] → W pP l eE rm_L_closes sS mM args below meth cC H locs 0 0 (MQ below (QV G A [aI G (h 18) 5 (nF w), aI G a 7 (pF (F_L_closes w v mm))]) args sS 0 0 A) (F0 mM 155 ls []) := by
    intro d
    induction d with
    | zero =>
      intro i v9 hi hF H locs ls hW hl
      refine lv_aload_n hx hb dL_closes_155 rfl (lv_at hl 1 rfl) ?_
      refine lv_iconst (v := 1) hx hb dL_closes_156 (by decide) ?_
      refine k_vld S hK hW 1 rfl (i := 1) (k := 1) (x := v9.2.1) vi7_1 ix_1 rfl dL_closes_157 ?_
      refine lv_aload_n hx hb dL_closes_158 rfl (lv_at hl 1 rfl) ?_
      refine lv_iconst (v := 2) hx hb dL_closes_159 (by decide) ?_
      refine k_vld S hK hW 1 rfl (i := 2) (k := 2) (x := v9.2.2.1) vi7_2 ix_2 rfl dL_closes_160 ?_
      refine lv_icmp_ge (tgt := 171) hx hb dL_closes_161 (by decide) (fun c_1 => ?_) (fun c_1 => ?_)
      ·
        refine lv_aload_n hx hb dL_closes_171 rfl (lv_at hl 1 rfl) ?_
        refine lv_iconst (v := 2) hx hb dL_closes_172 (by decide) ?_
        refine k_vld S hK hW 1 rfl (i := 2) (k := 2) (x := v9.2.2.1) vi7_2 ix_2 rfl dL_closes_173 ?_
        refine lv_i2l hx hb dL_closes_174 rfl ?_
        refine lv_lstore (lv' := [(5, .long v9.2.2.1.toInt64), (0, .ref (h 18)), (1, .ref a)]) hx hb dL_closes_175 hl (by decide) rfl (fun ls hl => ?_)
        refine lv_aload_n hx hb dL_closes_177 rfl (lv_at hl 2 rfl) ?_
        refine lv_iconst (v := 1) hx hb dL_closes_178 (by decide) ?_
        refine k_vld S hK hW 1 rfl (i := 1) (k := 1) (x := v9.2.1) vi7_1 ix_1 rfl dL_closes_179 ?_
        refine lv_i2l hx hb dL_closes_180 rfl ?_
        refine lv_lload hx hb dL_closes_181 (lv_at hl 0 rfl) ?_
        refine lv_lsub hx hb dL_closes_183 ?_
        refine k_ldc2 S k_L_closes_c25 dL_closes_184 ?_
        refine lv_lsub hx hb dL_closes_187 ?_
        refine lv_lstore (lv' := [(7, .long ((v9.2.1.toInt64 - v9.2.2.1.toInt64) - 1000000)), (5, .long v9.2.2.1.toInt64), (0, .ref (h 18)), (1, .ref a)]) hx hb dL_closes_188 hl (by decide) rfl (fun ls hl => ?_)
        refine lv_lload hx hb dL_closes_190 (lv_at hl 1 rfl) ?_
        refine k_ldc2 S k_L_closes_c27 dL_closes_192 ?_
        refine lv_lmul hx hb dL_closes_195 ?_
        refine lv_lload hx hb dL_closes_196 (lv_at hl 0 rfl) ?_
        refine lv_lconst (v := 0) hx hb dL_closes_198 rfl ?_
        refine W.lcmp hx hb dL_closes_199 ?_
        refine lv_if_le (tgt := 216) hx hb dL_closes_200 (by decide) (fun c_2 => ?_) (fun c_2 => ?_)
        ·
          refine lv_aload_n hx hb dL_closes_216 rfl (lv_at hl 3 rfl) ?_
          refine lv_iconst (v := 1) hx hb dL_closes_217 (by decide) ?_
          refine k_vld S hK hW 1 rfl (i := 1) (k := 1) (x := v9.2.1) vi7_1 ix_1 rfl dL_closes_218 ?_
          refine lv_i2l hx hb dL_closes_219 rfl ?_
          refine lv_lload hx hb dL_closes_220 (lv_at hl 1 rfl) ?_
          refine lv_lsub hx hb dL_closes_222 ?_
          refine k_ldc2 S k_L_closes_c33 dL_closes_223 ?_
          refine lv_lmul hx hb dL_closes_226 ?_
          refine lv_ladd hx hb dL_closes_227 ?_
          refine lv_lstore (lv' := [(9, .long ((v9.2.2.1.toInt64 * 2) + ((v9.2.1.toInt64 - v9.2.2.1.toInt64) * 3))), (7, .long ((v9.2.1.toInt64 - v9.2.2.1.toInt64) - 1000000)), (5, .long v9.2.2.1.toInt64), (0, .ref (h 18)), (1, .ref a)]) hx hb dL_closes_228 hl (by decide) rfl (fun ls hl => ?_)
          refine lv_aload_n hx hb dL_closes_230 rfl (lv_at hl 4 rfl) ?_
          refine lv_iconst (v := 1) hx hb dL_closes_231 (by decide) ?_
          refine lv_dup2_11 hx hb dL_closes_232 rfl rfl ?_
          refine k_vld S hK hW 1 rfl (i := 1) (k := 1) (x := v9.2.1) vi7_1 ix_1 rfl dL_closes_233 ?_
          refine lv_lload hx hb dL_closes_234 (lv_at hl 0 rfl) ?_
          refine k_ldc2 S k_L_closes_c35 dL_closes_236 ?_
          refine lv_ldiv hx hb dL_closes_239 (by decide) ?_
          refine lv_l2i hx hb dL_closes_240 rfl ?_
          refine lv_iadd hx hb dL_closes_241 ?_
          refine lv_topi (fun z_3 ez_3 => ?_)
          refine k_vst (f' := pF (v9.1, z_3, v9.2.2.1, v9.2.2.2.1, v9.2.2.2.2.1, v9.2.2.2.2.2.1, v9.2.2.2.2.2.2)) (ws' := [aI G (h 18) 5 (nF w), aI G a 7 (pF (v9.1, z_3, v9.2.2.1, v9.2.2.2.1, v9.2.2.2.2.1, v9.2.2.2.2.2.1, v9.2.2.2.2.2.2))]) S hK hW 1 rfl (i := 1) (k := 1) vi7_1 ix_1 (up_p1 _ _) rfl dL_closes_242 (fun H locs hW => ?_)
          refine lv_aload_n hx hb dL_closes_243 rfl (lv_at hl 4 rfl) ?_
          refine lv_iconst (v := 2) hx hb dL_closes_244 (by decide) ?_
          refine lv_dup2_11 hx hb dL_closes_245 rfl rfl ?_
          refine k_vld S hK hW 1 rfl (i := 2) (k := 2) (x := v9.2.2.1) vi7_2 ix_2 rfl dL_closes_246 ?_
          refine lv_aload_n hx hb dL_closes_247 rfl (lv_at hl 4 rfl) ?_
          refine lv_iconst (v := 2) hx hb dL_closes_248 (by decide) ?_
          refine k_vld S hK hW 1 rfl (i := 2) (k := 2) (x := v9.2.2.1) vi7_2 ix_2 rfl dL_closes_249 ?_
          refine lv_i2l hx hb dL_closes_250 rfl ?_
          refine k_ldc2 S k_L_closes_c37 dL_closes_251 ?_
          refine lv_lmul hx hb dL_closes_254 ?_
          refine k_ldc2 S k_L_closes_c35 dL_closes_255 ?_
          refine lv_ldiv hx hb dL_closes_258 (by decide) ?_
          refine lv_l2i hx hb dL_closes_259 rfl ?_
          refine lv_iadd hx hb dL_closes_260 ?_
          refine lv_topi (fun z_4 ez_4 => ?_)
          refine k_vst (f' := pF (v9.1, z_3, z_4, v9.2.2.2.1, v9.2.2.2.2.1, v9.2.2.2.2.2.1, v9.2.2.2.2.2.2)) (ws' := [aI G (h 18) 5 (nF w), aI G a 7 (pF (v9.1, z_3, z_4, v9.2.2.2.1, v9.2.2.2.2.1, v9.2.2.2.2.2.1, v9.2.2.2.2.2.2))]) S hK hW 1 rfl (i := 2) (k := 2) vi7_2 ix_2 (up_p2 _ _) rfl dL_closes_261 (fun H locs hW => ?_)
          have hW9 := hW
          have hl9 := hl
          subst ez_3
          subst ez_4
          have eF : (F_L_closes w v mm) = (v9.1, (v9.2.1 + (((v9.2.2.1.toInt64 * 2) + ((v9.2.1.toInt64 - v9.2.2.1.toInt64) * 3)) / 1200).toInt32), (v9.2.2.1 + ((v9.2.2.1.toInt64 * 5) / 1200).toInt32), v9.2.2.2.1, v9.2.2.2.2.1, v9.2.2.2.2.2.1, v9.2.2.2.2.2.2) := hF.symm.trans (by
            rw [Lp_L_closes, if_pos c_1, if_pos c_2])
          exact k_vret (wf := [aI G (h 18) 5 (nF w), aI G a 7 (pF (v9.1, (v9.2.1 + (((v9.2.2.1.toInt64 * 2) + ((v9.2.1.toInt64 - v9.2.2.1.toInt64) * 3)) / 1200).toInt32), (v9.2.2.1 + ((v9.2.2.1.toInt64 * 5) / 1200).toInt32), v9.2.2.2.1, v9.2.2.2.2.1, v9.2.2.2.2.2.1, v9.2.2.2.2.2.2))]) S hr hlk hK hW9 [0, 1] rfl rfl (congrArg (fun (z : S7) => [aI G (h 18) 5 (nF w), aI G a 7 (pF z)]) eF).symm dL_closes_262
        ·
          refine k_ldc2 S k_L_closes_c29 dL_closes_203 ?_
          refine lv_lload hx hb dL_closes_206 (lv_at hl 0 rfl) ?_
          refine k_ldc2 S k_L_closes_c31 dL_closes_208 ?_
          refine lv_lmul hx hb dL_closes_211 ?_
          refine lv_ladd hx hb dL_closes_212 ?_
          refine lv_goto (tgt := 227) hx hb dL_closes_213 (by decide) ?_
          refine lv_ladd hx hb dL_closes_227 ?_
          refine lv_lstore (lv' := [(9, .long ((v9.2.2.1.toInt64 * 2) + (3000000 + (((v9.2.1.toInt64 - v9.2.2.1.toInt64) - 1000000) * 4)))), (7, .long ((v9.2.1.toInt64 - v9.2.2.1.toInt64) - 1000000)), (5, .long v9.2.2.1.toInt64), (0, .ref (h 18)), (1, .ref a)]) hx hb dL_closes_228 hl (by decide) rfl (fun ls hl => ?_)
          refine lv_aload_n hx hb dL_closes_230 rfl (lv_at hl 4 rfl) ?_
          refine lv_iconst (v := 1) hx hb dL_closes_231 (by decide) ?_
          refine lv_dup2_11 hx hb dL_closes_232 rfl rfl ?_
          refine k_vld S hK hW 1 rfl (i := 1) (k := 1) (x := v9.2.1) vi7_1 ix_1 rfl dL_closes_233 ?_
          refine lv_lload hx hb dL_closes_234 (lv_at hl 0 rfl) ?_
          refine k_ldc2 S k_L_closes_c35 dL_closes_236 ?_
          refine lv_ldiv hx hb dL_closes_239 (by decide) ?_
          refine lv_l2i hx hb dL_closes_240 rfl ?_
          refine lv_iadd hx hb dL_closes_241 ?_
          refine lv_topi (fun z_5 ez_5 => ?_)
          refine k_vst (f' := pF (v9.1, z_5, v9.2.2.1, v9.2.2.2.1, v9.2.2.2.2.1, v9.2.2.2.2.2.1, v9.2.2.2.2.2.2)) (ws' := [aI G (h 18) 5 (nF w), aI G a 7 (pF (v9.1, z_5, v9.2.2.1, v9.2.2.2.1, v9.2.2.2.2.1, v9.2.2.2.2.2.1, v9.2.2.2.2.2.2))]) S hK hW 1 rfl (i := 1) (k := 1) vi7_1 ix_1 (up_p1 _ _) rfl dL_closes_242 (fun H locs hW => ?_)
          refine lv_aload_n hx hb dL_closes_243 rfl (lv_at hl 4 rfl) ?_
          refine lv_iconst (v := 2) hx hb dL_closes_244 (by decide) ?_
          refine lv_dup2_11 hx hb dL_closes_245 rfl rfl ?_
          refine k_vld S hK hW 1 rfl (i := 2) (k := 2) (x := v9.2.2.1) vi7_2 ix_2 rfl dL_closes_246 ?_
          refine lv_aload_n hx hb dL_closes_247 rfl (lv_at hl 4 rfl) ?_
          refine lv_iconst (v := 2) hx hb dL_closes_248 (by decide) ?_
          refine k_vld S hK hW 1 rfl (i := 2) (k := 2) (x := v9.2.2.1) vi7_2 ix_2 rfl dL_closes_249 ?_
          refine lv_i2l hx hb dL_closes_250 rfl ?_
          refine k_ldc2 S k_L_closes_c37 dL_closes_251 ?_
          refine lv_lmul hx hb dL_closes_254 ?_
          refine k_ldc2 S k_L_closes_c35 dL_closes_255 ?_
          refine lv_ldiv hx hb dL_closes_258 (by decide) ?_
          refine lv_l2i hx hb dL_closes_259 rfl ?_
          refine lv_iadd hx hb dL_closes_260 ?_
          refine lv_topi (fun z_6 ez_6 => ?_)
          refine k_vst (f' := pF (v9.1, z_5, z_6, v9.2.2.2.1, v9.2.2.2.2.1, v9.2.2.2.2.2.1, v9.2.2.2.2.2.2)) (ws' := [aI G (h 18) 5 (nF w), aI G a 7 (pF (v9.1, z_5, z_6, v9.2.2.2.1, v9.2.2.2.2.1, v9.2.2.2.2.2.1, v9.2.2.2.2.2.2))]) S hK hW 1 rfl (i := 2) (k := 2) vi7_2 ix_2 (up_p2 _ _) rfl dL_closes_261 (fun H locs hW => ?_)
          have hW9 := hW
          have hl9 := hl
          subst ez_5
          subst ez_6
          have eF : (F_L_closes w v mm) = (v9.1, (v9.2.1 + (((v9.2.2.1.toInt64 * 2) + (3000000 + (((v9.2.1.toInt64 - v9.2.2.1.toInt64) - 1000000) * 4))) / 1200).toInt32), (v9.2.2.1 + ((v9.2.2.1.toInt64 * 5) / 1200).toInt32), v9.2.2.2.1, v9.2.2.2.2.1, v9.2.2.2.2.2.1, v9.2.2.2.2.2.2) := hF.symm.trans (by
            rw [Lp_L_closes, if_pos c_1, if_neg c_2])
          exact k_vret (wf := [aI G (h 18) 5 (nF w), aI G a 7 (pF (v9.1, (v9.2.1 + (((v9.2.2.1.toInt64 * 2) + (3000000 + (((v9.2.1.toInt64 - v9.2.2.1.toInt64) - 1000000) * 4))) / 1200).toInt32), (v9.2.2.1 + ((v9.2.2.1.toInt64 * 5) / 1200).toInt32), v9.2.2.2.1, v9.2.2.2.2.1, v9.2.2.2.2.2.1, v9.2.2.2.2.2.2))]) S hr hlk hK hW9 [0, 1] rfl rfl (congrArg (fun (z : S7) => [aI G (h 18) 5 (nF w), aI G a 7 (pF z)]) eF).symm dL_closes_262
      ·
        refine lv_aload_n hx hb dL_closes_164 rfl (lv_at hl 1 rfl) ?_
        refine lv_iconst (v := 1) hx hb dL_closes_165 (by decide) ?_
        refine k_vld S hK hW 1 rfl (i := 1) (k := 1) (x := v9.2.1) vi7_1 ix_1 rfl dL_closes_166 ?_
        refine lv_i2l hx hb dL_closes_167 rfl ?_
        refine lv_goto (tgt := 175) hx hb dL_closes_168 (by decide) ?_
        refine lv_lstore (lv' := [(5, .long v9.2.1.toInt64), (0, .ref (h 18)), (1, .ref a)]) hx hb dL_closes_175 hl (by decide) rfl (fun ls hl => ?_)
        refine lv_aload_n hx hb dL_closes_177 rfl (lv_at hl 2 rfl) ?_
        refine lv_iconst (v := 1) hx hb dL_closes_178 (by decide) ?_
        refine k_vld S hK hW 1 rfl (i := 1) (k := 1) (x := v9.2.1) vi7_1 ix_1 rfl dL_closes_179 ?_
        refine lv_i2l hx hb dL_closes_180 rfl ?_
        refine lv_lload hx hb dL_closes_181 (lv_at hl 0 rfl) ?_
        refine lv_lsub hx hb dL_closes_183 ?_
        refine k_ldc2 S k_L_closes_c25 dL_closes_184 ?_
        refine lv_lsub hx hb dL_closes_187 ?_
        refine lv_lstore (lv' := [(7, .long ((v9.2.1.toInt64 - v9.2.1.toInt64) - 1000000)), (5, .long v9.2.1.toInt64), (0, .ref (h 18)), (1, .ref a)]) hx hb dL_closes_188 hl (by decide) rfl (fun ls hl => ?_)
        refine lv_lload hx hb dL_closes_190 (lv_at hl 1 rfl) ?_
        refine k_ldc2 S k_L_closes_c27 dL_closes_192 ?_
        refine lv_lmul hx hb dL_closes_195 ?_
        refine lv_lload hx hb dL_closes_196 (lv_at hl 0 rfl) ?_
        refine lv_lconst (v := 0) hx hb dL_closes_198 rfl ?_
        refine W.lcmp hx hb dL_closes_199 ?_
        refine lv_if_le (tgt := 216) hx hb dL_closes_200 (by decide) (fun c_7 => ?_) (fun c_7 => ?_)
        ·
          refine lv_aload_n hx hb dL_closes_216 rfl (lv_at hl 3 rfl) ?_
          refine lv_iconst (v := 1) hx hb dL_closes_217 (by decide) ?_
          refine k_vld S hK hW 1 rfl (i := 1) (k := 1) (x := v9.2.1) vi7_1 ix_1 rfl dL_closes_218 ?_
          refine lv_i2l hx hb dL_closes_219 rfl ?_
          refine lv_lload hx hb dL_closes_220 (lv_at hl 1 rfl) ?_
          refine lv_lsub hx hb dL_closes_222 ?_
          refine k_ldc2 S k_L_closes_c33 dL_closes_223 ?_
          refine lv_lmul hx hb dL_closes_226 ?_
          refine lv_ladd hx hb dL_closes_227 ?_
          refine lv_lstore (lv' := [(9, .long ((v9.2.1.toInt64 * 2) + ((v9.2.1.toInt64 - v9.2.1.toInt64) * 3))), (7, .long ((v9.2.1.toInt64 - v9.2.1.toInt64) - 1000000)), (5, .long v9.2.1.toInt64), (0, .ref (h 18)), (1, .ref a)]) hx hb dL_closes_228 hl (by decide) rfl (fun ls hl => ?_)
          refine lv_aload_n hx hb dL_closes_230 rfl (lv_at hl 4 rfl) ?_
          refine lv_iconst (v := 1) hx hb dL_closes_231 (by decide) ?_
          refine lv_dup2_11 hx hb dL_closes_232 rfl rfl ?_
          refine k_vld S hK hW 1 rfl (i := 1) (k := 1) (x := v9.2.1) vi7_1 ix_1 rfl dL_closes_233 ?_
          refine lv_lload hx hb dL_closes_234 (lv_at hl 0 rfl) ?_
          refine k_ldc2 S k_L_closes_c35 dL_closes_236 ?_
          refine lv_ldiv hx hb dL_closes_239 (by decide) ?_
          refine lv_l2i hx hb dL_closes_240 rfl ?_
          refine lv_iadd hx hb dL_closes_241 ?_
          refine lv_topi (fun z_8 ez_8 => ?_)
          refine k_vst (f' := pF (v9.1, z_8, v9.2.2.1, v9.2.2.2.1, v9.2.2.2.2.1, v9.2.2.2.2.2.1, v9.2.2.2.2.2.2)) (ws' := [aI G (h 18) 5 (nF w), aI G a 7 (pF (v9.1, z_8, v9.2.2.1, v9.2.2.2.1, v9.2.2.2.2.1, v9.2.2.2.2.2.1, v9.2.2.2.2.2.2))]) S hK hW 1 rfl (i := 1) (k := 1) vi7_1 ix_1 (up_p1 _ _) rfl dL_closes_242 (fun H locs hW => ?_)
          refine lv_aload_n hx hb dL_closes_243 rfl (lv_at hl 4 rfl) ?_
          refine lv_iconst (v := 2) hx hb dL_closes_244 (by decide) ?_
          refine lv_dup2_11 hx hb dL_closes_245 rfl rfl ?_
          refine k_vld S hK hW 1 rfl (i := 2) (k := 2) (x := v9.2.2.1) vi7_2 ix_2 rfl dL_closes_246 ?_
          refine lv_aload_n hx hb dL_closes_247 rfl (lv_at hl 4 rfl) ?_
          refine lv_iconst (v := 2) hx hb dL_closes_248 (by decide) ?_
          refine k_vld S hK hW 1 rfl (i := 2) (k := 2) (x := v9.2.2.1) vi7_2 ix_2 rfl dL_closes_249 ?_
          refine lv_i2l hx hb dL_closes_250 rfl ?_
          refine k_ldc2 S k_L_closes_c37 dL_closes_251 ?_
          refine lv_lmul hx hb dL_closes_254 ?_
          refine k_ldc2 S k_L_closes_c35 dL_closes_255 ?_
          refine lv_ldiv hx hb dL_closes_258 (by decide) ?_
          refine lv_l2i hx hb dL_closes_259 rfl ?_
          refine lv_iadd hx hb dL_closes_260 ?_
          refine lv_topi (fun z_9 ez_9 => ?_)
          refine k_vst (f' := pF (v9.1, z_8, z_9, v9.2.2.2.1, v9.2.2.2.2.1, v9.2.2.2.2.2.1, v9.2.2.2.2.2.2)) (ws' := [aI G (h 18) 5 (nF w), aI G a 7 (pF (v9.1, z_8, z_9, v9.2.2.2.1, v9.2.2.2.2.1, v9.2.2.2.2.2.1, v9.2.2.2.2.2.2))]) S hK hW 1 rfl (i := 2) (k := 2) vi7_2 ix_2 (up_p2 _ _) rfl dL_closes_261 (fun H locs hW => ?_)
          have hW9 := hW
          have hl9 := hl
          subst ez_8
          subst ez_9
          have eF : (F_L_closes w v mm) = (v9.1, (v9.2.1 + (((v9.2.1.toInt64 * 2) + ((v9.2.1.toInt64 - v9.2.1.toInt64) * 3)) / 1200).toInt32), (v9.2.2.1 + ((v9.2.2.1.toInt64 * 5) / 1200).toInt32), v9.2.2.2.1, v9.2.2.2.2.1, v9.2.2.2.2.2.1, v9.2.2.2.2.2.2) := hF.symm.trans (by
            rw [Lp_L_closes, if_neg c_1, if_pos c_7])
          exact k_vret (wf := [aI G (h 18) 5 (nF w), aI G a 7 (pF (v9.1, (v9.2.1 + (((v9.2.1.toInt64 * 2) + ((v9.2.1.toInt64 - v9.2.1.toInt64) * 3)) / 1200).toInt32), (v9.2.2.1 + ((v9.2.2.1.toInt64 * 5) / 1200).toInt32), v9.2.2.2.1, v9.2.2.2.2.1, v9.2.2.2.2.2.1, v9.2.2.2.2.2.2))]) S hr hlk hK hW9 [0, 1] rfl rfl (congrArg (fun (z : S7) => [aI G (h 18) 5 (nF w), aI G a 7 (pF z)]) eF).symm dL_closes_262
        ·
          refine k_ldc2 S k_L_closes_c29 dL_closes_203 ?_
          refine lv_lload hx hb dL_closes_206 (lv_at hl 0 rfl) ?_
          refine k_ldc2 S k_L_closes_c31 dL_closes_208 ?_
          refine lv_lmul hx hb dL_closes_211 ?_
          refine lv_ladd hx hb dL_closes_212 ?_
          refine lv_goto (tgt := 227) hx hb dL_closes_213 (by decide) ?_
          refine lv_ladd hx hb dL_closes_227 ?_
          refine lv_lstore (lv' := [(9, .long ((v9.2.1.toInt64 * 2) + (3000000 + (((v9.2.1.toInt64 - v9.2.1.toInt64) - 1000000) * 4)))), (7, .long ((v9.2.1.toInt64 - v9.2.1.toInt64) - 1000000)), (5, .long v9.2.1.toInt64), (0, .ref (h 18)), (1, .ref a)]) hx hb dL_closes_228 hl (by decide) rfl (fun ls hl => ?_)
          refine lv_aload_n hx hb dL_closes_230 rfl (lv_at hl 4 rfl) ?_
          refine lv_iconst (v := 1) hx hb dL_closes_231 (by decide) ?_
          refine lv_dup2_11 hx hb dL_closes_232 rfl rfl ?_
          refine k_vld S hK hW 1 rfl (i := 1) (k := 1) (x := v9.2.1) vi7_1 ix_1 rfl dL_closes_233 ?_
          refine lv_lload hx hb dL_closes_234 (lv_at hl 0 rfl) ?_
          refine k_ldc2 S k_L_closes_c35 dL_closes_236 ?_
          refine lv_ldiv hx hb dL_closes_239 (by decide) ?_
          refine lv_l2i hx hb dL_closes_240 rfl ?_
          refine lv_iadd hx hb dL_closes_241 ?_
          refine lv_topi (fun z_10 ez_10 => ?_)
          refine k_vst (f' := pF (v9.1, z_10, v9.2.2.1, v9.2.2.2.1, v9.2.2.2.2.1, v9.2.2.2.2.2.1, v9.2.2.2.2.2.2)) (ws' := [aI G (h 18) 5 (nF w), aI G a 7 (pF (v9.1, z_10, v9.2.2.1, v9.2.2.2.1, v9.2.2.2.2.1, v9.2.2.2.2.2.1, v9.2.2.2.2.2.2))]) S hK hW 1 rfl (i := 1) (k := 1) vi7_1 ix_1 (up_p1 _ _) rfl dL_closes_242 (fun H locs hW => ?_)
          refine lv_aload_n hx hb dL_closes_243 rfl (lv_at hl 4 rfl) ?_
          refine lv_iconst (v := 2) hx hb dL_closes_244 (by decide) ?_
          refine lv_dup2_11 hx hb dL_closes_245 rfl rfl ?_
          refine k_vld S hK hW 1 rfl (i := 2) (k := 2) (x := v9.2.2.1) vi7_2 ix_2 rfl dL_closes_246 ?_
          refine lv_aload_n hx hb dL_closes_247 rfl (lv_at hl 4 rfl) ?_
          refine lv_iconst (v := 2) hx hb dL_closes_248 (by decide) ?_
          refine k_vld S hK hW 1 rfl (i := 2) (k := 2) (x := v9.2.2.1) vi7_2 ix_2 rfl dL_closes_249 ?_
          refine lv_i2l hx hb dL_closes_250 rfl ?_
          refine k_ldc2 S k_L_closes_c37 dL_closes_251 ?_
          refine lv_lmul hx hb dL_closes_254 ?_
          refine k_ldc2 S k_L_closes_c35 dL_closes_255 ?_
          refine lv_ldiv hx hb dL_closes_258 (by decide) ?_
          refine lv_l2i hx hb dL_closes_259 rfl ?_
          refine lv_iadd hx hb dL_closes_260 ?_
          refine lv_topi (fun z_11 ez_11 => ?_)
          refine k_vst (f' := pF (v9.1, z_10, z_11, v9.2.2.2.1, v9.2.2.2.2.1, v9.2.2.2.2.2.1, v9.2.2.2.2.2.2)) (ws' := [aI G (h 18) 5 (nF w), aI G a 7 (pF (v9.1, z_10, z_11, v9.2.2.2.1, v9.2.2.2.2.1, v9.2.2.2.2.2.1, v9.2.2.2.2.2.2))]) S hK hW 1 rfl (i := 2) (k := 2) vi7_2 ix_2 (up_p2 _ _) rfl dL_closes_261 (fun H locs hW => ?_)
          have hW9 := hW
          have hl9 := hl
          subst ez_10
          subst ez_11
          have eF : (F_L_closes w v mm) = (v9.1, (v9.2.1 + (((v9.2.1.toInt64 * 2) + (3000000 + (((v9.2.1.toInt64 - v9.2.1.toInt64) - 1000000) * 4))) / 1200).toInt32), (v9.2.2.1 + ((v9.2.2.1.toInt64 * 5) / 1200).toInt32), v9.2.2.2.1, v9.2.2.2.2.1, v9.2.2.2.2.2.1, v9.2.2.2.2.2.2) := hF.symm.trans (by
            rw [Lp_L_closes, if_neg c_1, if_neg c_7])
          exact k_vret (wf := [aI G (h 18) 5 (nF w), aI G a 7 (pF (v9.1, (v9.2.1 + (((v9.2.1.toInt64 * 2) + (3000000 + (((v9.2.1.toInt64 - v9.2.1.toInt64) - 1000000) * 4))) / 1200).toInt32), (v9.2.2.1 + ((v9.2.2.1.toInt64 * 5) / 1200).toInt32), v9.2.2.2.1, v9.2.2.2.2.1, v9.2.2.2.2.2.1, v9.2.2.2.2.2.2))]) S hr hlk hK hW9 [0, 1] rfl rfl (congrArg (fun (z : S7) => [aI G (h 18) 5 (nF w), aI G a 7 (pF z)]) eF).symm dL_closes_262
    | succ d ih =>
      intro i v9 hi hF H locs ls hW hl
      refine lv_aload_n hx hb dL_closes_155 rfl (lv_at hl 1 rfl) ?_
      refine lv_iconst (v := 1) hx hb dL_closes_156 (by decide) ?_
      refine k_vld S hK hW 1 rfl (i := 1) (k := 1) (x := v9.2.1) vi7_1 ix_1 rfl dL_closes_157 ?_
      refine lv_aload_n hx hb dL_closes_158 rfl (lv_at hl 1 rfl) ?_
      refine lv_iconst (v := 2) hx hb dL_closes_159 (by decide) ?_
      refine k_vld S hK hW 1 rfl (i := 2) (k := 2) (x := v9.2.2.1) vi7_2 ix_2 rfl dL_closes_160 ?_
      refine lv_icmp_ge (tgt := 171) hx hb dL_closes_161 (by decide) (fun c_12 => ?_) (fun c_12 => ?_)
      ·
        refine lv_aload_n hx hb dL_closes_171 rfl (lv_at hl 1 rfl) ?_
        refine lv_iconst (v := 2) hx hb dL_closes_172 (by decide) ?_
        refine k_vld S hK hW 1 rfl (i := 2) (k := 2) (x := v9.2.2.1) vi7_2 ix_2 rfl dL_closes_173 ?_
        refine lv_i2l hx hb dL_closes_174 rfl ?_
        refine lv_lstore (lv' := [(5, .long v9.2.2.1.toInt64), (0, .ref (h 18)), (1, .ref a)]) hx hb dL_closes_175 hl (by decide) rfl (fun ls hl => ?_)
        refine lv_aload_n hx hb dL_closes_177 rfl (lv_at hl 2 rfl) ?_
        refine lv_iconst (v := 1) hx hb dL_closes_178 (by decide) ?_
        refine k_vld S hK hW 1 rfl (i := 1) (k := 1) (x := v9.2.1) vi7_1 ix_1 rfl dL_closes_179 ?_
        refine lv_i2l hx hb dL_closes_180 rfl ?_
        refine lv_lload hx hb dL_closes_181 (lv_at hl 0 rfl) ?_
        refine lv_lsub hx hb dL_closes_183 ?_
        refine k_ldc2 S k_L_closes_c25 dL_closes_184 ?_
        refine lv_lsub hx hb dL_closes_187 ?_
        refine lv_lstore (lv' := [(7, .long ((v9.2.1.toInt64 - v9.2.2.1.toInt64) - 1000000)), (5, .long v9.2.2.1.toInt64), (0, .ref (h 18)), (1, .ref a)]) hx hb dL_closes_188 hl (by decide) rfl (fun ls hl => ?_)
        refine lv_lload hx hb dL_closes_190 (lv_at hl 1 rfl) ?_
        refine k_ldc2 S k_L_closes_c27 dL_closes_192 ?_
        refine lv_lmul hx hb dL_closes_195 ?_
        refine lv_lload hx hb dL_closes_196 (lv_at hl 0 rfl) ?_
        refine lv_lconst (v := 0) hx hb dL_closes_198 rfl ?_
        refine W.lcmp hx hb dL_closes_199 ?_
        refine lv_if_le (tgt := 216) hx hb dL_closes_200 (by decide) (fun c_13 => ?_) (fun c_13 => ?_)
        ·
          refine lv_aload_n hx hb dL_closes_216 rfl (lv_at hl 3 rfl) ?_
          refine lv_iconst (v := 1) hx hb dL_closes_217 (by decide) ?_
          refine k_vld S hK hW 1 rfl (i := 1) (k := 1) (x := v9.2.1) vi7_1 ix_1 rfl dL_closes_218 ?_
          refine lv_i2l hx hb dL_closes_219 rfl ?_
          refine lv_lload hx hb dL_closes_220 (lv_at hl 1 rfl) ?_
          refine lv_lsub hx hb dL_closes_222 ?_
          refine k_ldc2 S k_L_closes_c33 dL_closes_223 ?_
          refine lv_lmul hx hb dL_closes_226 ?_
          refine lv_ladd hx hb dL_closes_227 ?_
          refine lv_lstore (lv' := [(9, .long ((v9.2.2.1.toInt64 * 2) + ((v9.2.1.toInt64 - v9.2.2.1.toInt64) * 3))), (7, .long ((v9.2.1.toInt64 - v9.2.2.1.toInt64) - 1000000)), (5, .long v9.2.2.1.toInt64), (0, .ref (h 18)), (1, .ref a)]) hx hb dL_closes_228 hl (by decide) rfl (fun ls hl => ?_)
          refine lv_aload_n hx hb dL_closes_230 rfl (lv_at hl 4 rfl) ?_
          refine lv_iconst (v := 1) hx hb dL_closes_231 (by decide) ?_
          refine lv_dup2_11 hx hb dL_closes_232 rfl rfl ?_
          refine k_vld S hK hW 1 rfl (i := 1) (k := 1) (x := v9.2.1) vi7_1 ix_1 rfl dL_closes_233 ?_
          refine lv_lload hx hb dL_closes_234 (lv_at hl 0 rfl) ?_
          refine k_ldc2 S k_L_closes_c35 dL_closes_236 ?_
          refine lv_ldiv hx hb dL_closes_239 (by decide) ?_
          refine lv_l2i hx hb dL_closes_240 rfl ?_
          refine lv_iadd hx hb dL_closes_241 ?_
          refine lv_topi (fun z_14 ez_14 => ?_)
          refine k_vst (f' := pF (v9.1, z_14, v9.2.2.1, v9.2.2.2.1, v9.2.2.2.2.1, v9.2.2.2.2.2.1, v9.2.2.2.2.2.2)) (ws' := [aI G (h 18) 5 (nF w), aI G a 7 (pF (v9.1, z_14, v9.2.2.1, v9.2.2.2.1, v9.2.2.2.2.1, v9.2.2.2.2.2.1, v9.2.2.2.2.2.2))]) S hK hW 1 rfl (i := 1) (k := 1) vi7_1 ix_1 (up_p1 _ _) rfl dL_closes_242 (fun H locs hW => ?_)
          refine lv_aload_n hx hb dL_closes_243 rfl (lv_at hl 4 rfl) ?_
          refine lv_iconst (v := 2) hx hb dL_closes_244 (by decide) ?_
          refine lv_dup2_11 hx hb dL_closes_245 rfl rfl ?_
          refine k_vld S hK hW 1 rfl (i := 2) (k := 2) (x := v9.2.2.1) vi7_2 ix_2 rfl dL_closes_246 ?_
          refine lv_aload_n hx hb dL_closes_247 rfl (lv_at hl 4 rfl) ?_
          refine lv_iconst (v := 2) hx hb dL_closes_248 (by decide) ?_
          refine k_vld S hK hW 1 rfl (i := 2) (k := 2) (x := v9.2.2.1) vi7_2 ix_2 rfl dL_closes_249 ?_
          refine lv_i2l hx hb dL_closes_250 rfl ?_
          refine k_ldc2 S k_L_closes_c37 dL_closes_251 ?_
          refine lv_lmul hx hb dL_closes_254 ?_
          refine k_ldc2 S k_L_closes_c35 dL_closes_255 ?_
          refine lv_ldiv hx hb dL_closes_258 (by decide) ?_
          refine lv_l2i hx hb dL_closes_259 rfl ?_
          refine lv_iadd hx hb dL_closes_260 ?_
          refine lv_topi (fun z_15 ez_15 => ?_)
          refine k_vst (f' := pF (v9.1, z_14, z_15, v9.2.2.2.1, v9.2.2.2.2.1, v9.2.2.2.2.2.1, v9.2.2.2.2.2.2)) (ws' := [aI G (h 18) 5 (nF w), aI G a 7 (pF (v9.1, z_14, z_15, v9.2.2.2.1, v9.2.2.2.2.1, v9.2.2.2.2.2.1, v9.2.2.2.2.2.2))]) S hK hW 1 rfl (i := 2) (k := 2) vi7_2 ix_2 (up_p2 _ _) rfl dL_closes_261 (fun H locs hW => ?_)
          have hW9 := hW
          have hl9 := hl
          subst ez_14
          subst ez_15
          have eF : (F_L_closes w v mm) = (v9.1, (v9.2.1 + (((v9.2.2.1.toInt64 * 2) + ((v9.2.1.toInt64 - v9.2.2.1.toInt64) * 3)) / 1200).toInt32), (v9.2.2.1 + ((v9.2.2.1.toInt64 * 5) / 1200).toInt32), v9.2.2.2.1, v9.2.2.2.2.1, v9.2.2.2.2.2.1, v9.2.2.2.2.2.2) := hF.symm.trans (by
            rw [Lp_L_closes, if_pos c_12, if_pos c_13])
          exact k_vret (wf := [aI G (h 18) 5 (nF w), aI G a 7 (pF (v9.1, (v9.2.1 + (((v9.2.2.1.toInt64 * 2) + ((v9.2.1.toInt64 - v9.2.2.1.toInt64) * 3)) / 1200).toInt32), (v9.2.2.1 + ((v9.2.2.1.toInt64 * 5) / 1200).toInt32), v9.2.2.2.1, v9.2.2.2.2.1, v9.2.2.2.2.2.1, v9.2.2.2.2.2.2))]) S hr hlk hK hW9 [0, 1] rfl rfl (congrArg (fun (z : S7) => [aI G (h 18) 5 (nF w), aI G a 7 (pF z)]) eF).symm dL_closes_262
        ·
          refine k_ldc2 S k_L_closes_c29 dL_closes_203 ?_
          refine lv_lload hx hb dL_closes_206 (lv_at hl 0 rfl) ?_
          refine k_ldc2 S k_L_closes_c31 dL_closes_208 ?_
          refine lv_lmul hx hb dL_closes_211 ?_
          refine lv_ladd hx hb dL_closes_212 ?_
          refine lv_goto (tgt := 227) hx hb dL_closes_213 (by decide) ?_
          refine lv_ladd hx hb dL_closes_227 ?_
          refine lv_lstore (lv' := [(9, .long ((v9.2.2.1.toInt64 * 2) + (3000000 + (((v9.2.1.toInt64 - v9.2.2.1.toInt64) - 1000000) * 4)))), (7, .long ((v9.2.1.toInt64 - v9.2.2.1.toInt64) - 1000000)), (5, .long v9.2.2.1.toInt64), (0, .ref (h 18)), (1, .ref a)]) hx hb dL_closes_228 hl (by decide) rfl (fun ls hl => ?_)
          refine lv_aload_n hx hb dL_closes_230 rfl (lv_at hl 4 rfl) ?_
          refine lv_iconst (v := 1) hx hb dL_closes_231 (by decide) ?_
          refine lv_dup2_11 hx hb dL_closes_232 rfl rfl ?_
          refine k_vld S hK hW 1 rfl (i := 1) (k := 1) (x := v9.2.1) vi7_1 ix_1 rfl dL_closes_233 ?_
          refine lv_lload hx hb dL_closes_234 (lv_at hl 0 rfl) ?_
          refine k_ldc2 S k_L_closes_c35 dL_closes_236 ?_
          refine lv_ldiv hx hb dL_closes_239 (by decide) ?_
          refine lv_l2i hx hb dL_closes_240 rfl ?_
          refine lv_iadd hx hb dL_closes_241 ?_
          refine lv_topi (fun z_16 ez_16 => ?_)
          refine k_vst (f' := pF (v9.1, z_16, v9.2.2.1, v9.2.2.2.1, v9.2.2.2.2.1, v9.2.2.2.2.2.1, v9.2.2.2.2.2.2)) (ws' := [aI G (h 18) 5 (nF w), aI G a 7 (pF (v9.1, z_16, v9.2.2.1, v9.2.2.2.1, v9.2.2.2.2.1, v9.2.2.2.2.2.1, v9.2.2.2.2.2.2))]) S hK hW 1 rfl (i := 1) (k := 1) vi7_1 ix_1 (up_p1 _ _) rfl dL_closes_242 (fun H locs hW => ?_)
          refine lv_aload_n hx hb dL_closes_243 rfl (lv_at hl 4 rfl) ?_
          refine lv_iconst (v := 2) hx hb dL_closes_244 (by decide) ?_
          refine lv_dup2_11 hx hb dL_closes_245 rfl rfl ?_
          refine k_vld S hK hW 1 rfl (i := 2) (k := 2) (x := v9.2.2.1) vi7_2 ix_2 rfl dL_closes_246 ?_
          refine lv_aload_n hx hb dL_closes_247 rfl (lv_at hl 4 rfl) ?_
          refine lv_iconst (v := 2) hx hb dL_closes_248 (by decide) ?_
          refine k_vld S hK hW 1 rfl (i := 2) (k := 2) (x := v9.2.2.1) vi7_2 ix_2 rfl dL_closes_249 ?_
          refine lv_i2l hx hb dL_closes_250 rfl ?_
          refine k_ldc2 S k_L_closes_c37 dL_closes_251 ?_
          refine lv_lmul hx hb dL_closes_254 ?_
          refine k_ldc2 S k_L_closes_c35 dL_closes_255 ?_
          refine lv_ldiv hx hb dL_closes_258 (by decide) ?_
          refine lv_l2i hx hb dL_closes_259 rfl ?_
          refine lv_iadd hx hb dL_closes_260 ?_
          refine lv_topi (fun z_17 ez_17 => ?_)
          refine k_vst (f' := pF (v9.1, z_16, z_17, v9.2.2.2.1, v9.2.2.2.2.1, v9.2.2.2.2.2.1, v9.2.2.2.2.2.2)) (ws' := [aI G (h 18) 5 (nF w), aI G a 7 (pF (v9.1, z_16, z_17, v9.2.2.2.1, v9.2.2.2.2.1, v9.2.2.2.2.2.1, v9.2.2.2.2.2.2))]) S hK hW 1 rfl (i := 2) (k := 2) vi7_2 ix_2 (up_p2 _ _) rfl dL_closes_261 (fun H locs hW => ?_)
          have hW9 := hW
          have hl9 := hl
          subst ez_16
          subst ez_17
          have eF : (F_L_closes w v mm) = (v9.1, (v9.2.1 + (((v9.2.2.1.toInt64 * 2) + (3000000 + (((v9.2.1.toInt64 - v9.2.2.1.toInt64) - 1000000) * 4))) / 1200).toInt32), (v9.2.2.1 + ((v9.2.2.1.toInt64 * 5) / 1200).toInt32), v9.2.2.2.1, v9.2.2.2.2.1, v9.2.2.2.2.2.1, v9.2.2.2.2.2.2) := hF.symm.trans (by
            rw [Lp_L_closes, if_pos c_12, if_neg c_13])
          exact k_vret (wf := [aI G (h 18) 5 (nF w), aI G a 7 (pF (v9.1, (v9.2.1 + (((v9.2.2.1.toInt64 * 2) + (3000000 + (((v9.2.1.toInt64 - v9.2.2.1.toInt64) - 1000000) * 4))) / 1200).toInt32), (v9.2.2.1 + ((v9.2.2.1.toInt64 * 5) / 1200).toInt32), v9.2.2.2.1, v9.2.2.2.2.1, v9.2.2.2.2.2.1, v9.2.2.2.2.2.2))]) S hr hlk hK hW9 [0, 1] rfl rfl (congrArg (fun (z : S7) => [aI G (h 18) 5 (nF w), aI G a 7 (pF z)]) eF).symm dL_closes_262
      ·
        refine lv_aload_n hx hb dL_closes_164 rfl (lv_at hl 1 rfl) ?_
        refine lv_iconst (v := 1) hx hb dL_closes_165 (by decide) ?_
        refine k_vld S hK hW 1 rfl (i := 1) (k := 1) (x := v9.2.1) vi7_1 ix_1 rfl dL_closes_166 ?_
        refine lv_i2l hx hb dL_closes_167 rfl ?_
        refine lv_goto (tgt := 175) hx hb dL_closes_168 (by decide) ?_
        refine lv_lstore (lv' := [(5, .long v9.2.1.toInt64), (0, .ref (h 18)), (1, .ref a)]) hx hb dL_closes_175 hl (by decide) rfl (fun ls hl => ?_)
        refine lv_aload_n hx hb dL_closes_177 rfl (lv_at hl 2 rfl) ?_
        refine lv_iconst (v := 1) hx hb dL_closes_178 (by decide) ?_
        refine k_vld S hK hW 1 rfl (i := 1) (k := 1) (x := v9.2.1) vi7_1 ix_1 rfl dL_closes_179 ?_
        refine lv_i2l hx hb dL_closes_180 rfl ?_
        refine lv_lload hx hb dL_closes_181 (lv_at hl 0 rfl) ?_
        refine lv_lsub hx hb dL_closes_183 ?_
        refine k_ldc2 S k_L_closes_c25 dL_closes_184 ?_
        refine lv_lsub hx hb dL_closes_187 ?_
        refine lv_lstore (lv' := [(7, .long ((v9.2.1.toInt64 - v9.2.1.toInt64) - 1000000)), (5, .long v9.2.1.toInt64), (0, .ref (h 18)), (1, .ref a)]) hx hb dL_closes_188 hl (by decide) rfl (fun ls hl => ?_)
        refine lv_lload hx hb dL_closes_190 (lv_at hl 1 rfl) ?_
        refine k_ldc2 S k_L_closes_c27 dL_closes_192 ?_
        refine lv_lmul hx hb dL_closes_195 ?_
        refine lv_lload hx hb dL_closes_196 (lv_at hl 0 rfl) ?_
        refine lv_lconst (v := 0) hx hb dL_closes_198 rfl ?_
        refine W.lcmp hx hb dL_closes_199 ?_
        refine lv_if_le (tgt := 216) hx hb dL_closes_200 (by decide) (fun c_18 => ?_) (fun c_18 => ?_)
        ·
          refine lv_aload_n hx hb dL_closes_216 rfl (lv_at hl 3 rfl) ?_
          refine lv_iconst (v := 1) hx hb dL_closes_217 (by decide) ?_
          refine k_vld S hK hW 1 rfl (i := 1) (k := 1) (x := v9.2.1) vi7_1 ix_1 rfl dL_closes_218 ?_
          refine lv_i2l hx hb dL_closes_219 rfl ?_
          refine lv_lload hx hb dL_closes_220 (lv_at hl 1 rfl) ?_
          refine lv_lsub hx hb dL_closes_222 ?_
          refine k_ldc2 S k_L_closes_c33 dL_closes_223 ?_
          refine lv_lmul hx hb dL_closes_226 ?_
          refine lv_ladd hx hb dL_closes_227 ?_
          refine lv_lstore (lv' := [(9, .long ((v9.2.1.toInt64 * 2) + ((v9.2.1.toInt64 - v9.2.1.toInt64) * 3))), (7, .long ((v9.2.1.toInt64 - v9.2.1.toInt64) - 1000000)), (5, .long v9.2.1.toInt64), (0, .ref (h 18)), (1, .ref a)]) hx hb dL_closes_228 hl (by decide) rfl (fun ls hl => ?_)
          refine lv_aload_n hx hb dL_closes_230 rfl (lv_at hl 4 rfl) ?_
          refine lv_iconst (v := 1) hx hb dL_closes_231 (by decide) ?_
          refine lv_dup2_11 hx hb dL_closes_232 rfl rfl ?_
          refine k_vld S hK hW 1 rfl (i := 1) (k := 1) (x := v9.2.1) vi7_1 ix_1 rfl dL_closes_233 ?_
          refine lv_lload hx hb dL_closes_234 (lv_at hl 0 rfl) ?_
          refine k_ldc2 S k_L_closes_c35 dL_closes_236 ?_
          refine lv_ldiv hx hb dL_closes_239 (by decide) ?_
          refine lv_l2i hx hb dL_closes_240 rfl ?_
          refine lv_iadd hx hb dL_closes_241 ?_
          refine lv_topi (fun z_19 ez_19 => ?_)
          refine k_vst (f' := pF (v9.1, z_19, v9.2.2.1, v9.2.2.2.1, v9.2.2.2.2.1, v9.2.2.2.2.2.1, v9.2.2.2.2.2.2)) (ws' := [aI G (h 18) 5 (nF w), aI G a 7 (pF (v9.1, z_19, v9.2.2.1, v9.2.2.2.1, v9.2.2.2.2.1, v9.2.2.2.2.2.1, v9.2.2.2.2.2.2))]) S hK hW 1 rfl (i := 1) (k := 1) vi7_1 ix_1 (up_p1 _ _) rfl dL_closes_242 (fun H locs hW => ?_)
          refine lv_aload_n hx hb dL_closes_243 rfl (lv_at hl 4 rfl) ?_
          refine lv_iconst (v := 2) hx hb dL_closes_244 (by decide) ?_
          refine lv_dup2_11 hx hb dL_closes_245 rfl rfl ?_
          refine k_vld S hK hW 1 rfl (i := 2) (k := 2) (x := v9.2.2.1) vi7_2 ix_2 rfl dL_closes_246 ?_
          refine lv_aload_n hx hb dL_closes_247 rfl (lv_at hl 4 rfl) ?_
          refine lv_iconst (v := 2) hx hb dL_closes_248 (by decide) ?_
          refine k_vld S hK hW 1 rfl (i := 2) (k := 2) (x := v9.2.2.1) vi7_2 ix_2 rfl dL_closes_249 ?_
          refine lv_i2l hx hb dL_closes_250 rfl ?_
          refine k_ldc2 S k_L_closes_c37 dL_closes_251 ?_
          refine lv_lmul hx hb dL_closes_254 ?_
          refine k_ldc2 S k_L_closes_c35 dL_closes_255 ?_
          refine lv_ldiv hx hb dL_closes_258 (by decide) ?_
          refine lv_l2i hx hb dL_closes_259 rfl ?_
          refine lv_iadd hx hb dL_closes_260 ?_
          refine lv_topi (fun z_20 ez_20 => ?_)
          refine k_vst (f' := pF (v9.1, z_19, z_20, v9.2.2.2.1, v9.2.2.2.2.1, v9.2.2.2.2.2.1, v9.2.2.2.2.2.2)) (ws' := [aI G (h 18) 5 (nF w), aI G a 7 (pF (v9.1, z_19, z_20, v9.2.2.2.1, v9.2.2.2.2.1, v9.2.2.2.2.2.1, v9.2.2.2.2.2.2))]) S hK hW 1 rfl (i := 2) (k := 2) vi7_2 ix_2 (up_p2 _ _) rfl dL_closes_261 (fun H locs hW => ?_)
          have hW9 := hW
          have hl9 := hl
          subst ez_19
          subst ez_20
          have eF : (F_L_closes w v mm) = (v9.1, (v9.2.1 + (((v9.2.1.toInt64 * 2) + ((v9.2.1.toInt64 - v9.2.1.toInt64) * 3)) / 1200).toInt32), (v9.2.2.1 + ((v9.2.2.1.toInt64 * 5) / 1200).toInt32), v9.2.2.2.1, v9.2.2.2.2.1, v9.2.2.2.2.2.1, v9.2.2.2.2.2.2) := hF.symm.trans (by
            rw [Lp_L_closes, if_neg c_12, if_pos c_18])
          exact k_vret (wf := [aI G (h 18) 5 (nF w), aI G a 7 (pF (v9.1, (v9.2.1 + (((v9.2.1.toInt64 * 2) + ((v9.2.1.toInt64 - v9.2.1.toInt64) * 3)) / 1200).toInt32), (v9.2.2.1 + ((v9.2.2.1.toInt64 * 5) / 1200).toInt32), v9.2.2.2.1, v9.2.2.2.2.1, v9.2.2.2.2.2.1, v9.2.2.2.2.2.2))]) S hr hlk hK hW9 [0, 1] rfl rfl (congrArg (fun (z : S7) => [aI G (h 18) 5 (nF w), aI G a 7 (pF z)]) eF).symm dL_closes_262
        ·
          refine k_ldc2 S k_L_closes_c29 dL_closes_203 ?_
          refine lv_lload hx hb dL_closes_206 (lv_at hl 0 rfl) ?_
          refine k_ldc2 S k_L_closes_c31 dL_closes_208 ?_
          refine lv_lmul hx hb dL_closes_211 ?_
          refine lv_ladd hx hb dL_closes_212 ?_
          refine lv_goto (tgt := 227) hx hb dL_closes_213 (by decide) ?_
          refine lv_ladd hx hb dL_closes_227 ?_
          refine lv_lstore (lv' := [(9, .long ((v9.2.1.toInt64 * 2) + (3000000 + (((v9.2.1.toInt64 - v9.2.1.toInt64) - 1000000) * 4)))), (7, .long ((v9.2.1.toInt64 - v9.2.1.toInt64) - 1000000)), (5, .long v9.2.1.toInt64), (0, .ref (h 18)), (1, .ref a)]) hx hb dL_closes_228 hl (by decide) rfl (fun ls hl => ?_)
          refine lv_aload_n hx hb dL_closes_230 rfl (lv_at hl 4 rfl) ?_
          refine lv_iconst (v := 1) hx hb dL_closes_231 (by decide) ?_
          refine lv_dup2_11 hx hb dL_closes_232 rfl rfl ?_
          refine k_vld S hK hW 1 rfl (i := 1) (k := 1) (x := v9.2.1) vi7_1 ix_1 rfl dL_closes_233 ?_
          refine lv_lload hx hb dL_closes_234 (lv_at hl 0 rfl) ?_
          refine k_ldc2 S k_L_closes_c35 dL_closes_236 ?_
          refine lv_ldiv hx hb dL_closes_239 (by decide) ?_
          refine lv_l2i hx hb dL_closes_240 rfl ?_
          refine lv_iadd hx hb dL_closes_241 ?_
          refine lv_topi (fun z_21 ez_21 => ?_)
          refine k_vst (f' := pF (v9.1, z_21, v9.2.2.1, v9.2.2.2.1, v9.2.2.2.2.1, v9.2.2.2.2.2.1, v9.2.2.2.2.2.2)) (ws' := [aI G (h 18) 5 (nF w), aI G a 7 (pF (v9.1, z_21, v9.2.2.1, v9.2.2.2.1, v9.2.2.2.2.1, v9.2.2.2.2.2.1, v9.2.2.2.2.2.2))]) S hK hW 1 rfl (i := 1) (k := 1) vi7_1 ix_1 (up_p1 _ _) rfl dL_closes_242 (fun H locs hW => ?_)
          refine lv_aload_n hx hb dL_closes_243 rfl (lv_at hl 4 rfl) ?_
          refine lv_iconst (v := 2) hx hb dL_closes_244 (by decide) ?_
          refine lv_dup2_11 hx hb dL_closes_245 rfl rfl ?_
          refine k_vld S hK hW 1 rfl (i := 2) (k := 2) (x := v9.2.2.1) vi7_2 ix_2 rfl dL_closes_246 ?_
          refine lv_aload_n hx hb dL_closes_247 rfl (lv_at hl 4 rfl) ?_
          refine lv_iconst (v := 2) hx hb dL_closes_248 (by decide) ?_
          refine k_vld S hK hW 1 rfl (i := 2) (k := 2) (x := v9.2.2.1) vi7_2 ix_2 rfl dL_closes_249 ?_
          refine lv_i2l hx hb dL_closes_250 rfl ?_
          refine k_ldc2 S k_L_closes_c37 dL_closes_251 ?_
          refine lv_lmul hx hb dL_closes_254 ?_
          refine k_ldc2 S k_L_closes_c35 dL_closes_255 ?_
          refine lv_ldiv hx hb dL_closes_258 (by decide) ?_
          refine lv_l2i hx hb dL_closes_259 rfl ?_
          refine lv_iadd hx hb dL_closes_260 ?_
          refine lv_topi (fun z_22 ez_22 => ?_)
          refine k_vst (f' := pF (v9.1, z_21, z_22, v9.2.2.2.1, v9.2.2.2.2.1, v9.2.2.2.2.2.1, v9.2.2.2.2.2.2)) (ws' := [aI G (h 18) 5 (nF w), aI G a 7 (pF (v9.1, z_21, z_22, v9.2.2.2.1, v9.2.2.2.2.1, v9.2.2.2.2.2.1, v9.2.2.2.2.2.2))]) S hK hW 1 rfl (i := 2) (k := 2) vi7_2 ix_2 (up_p2 _ _) rfl dL_closes_261 (fun H locs hW => ?_)
          have hW9 := hW
          have hl9 := hl
          subst ez_21
          subst ez_22
          have eF : (F_L_closes w v mm) = (v9.1, (v9.2.1 + (((v9.2.1.toInt64 * 2) + (3000000 + (((v9.2.1.toInt64 - v9.2.1.toInt64) - 1000000) * 4))) / 1200).toInt32), (v9.2.2.1 + ((v9.2.2.1.toInt64 * 5) / 1200).toInt32), v9.2.2.2.1, v9.2.2.2.2.1, v9.2.2.2.2.2.1, v9.2.2.2.2.2.2) := hF.symm.trans (by
            rw [Lp_L_closes, if_neg c_12, if_neg c_18])
          exact k_vret (wf := [aI G (h 18) 5 (nF w), aI G a 7 (pF (v9.1, (v9.2.1 + (((v9.2.1.toInt64 * 2) + (3000000 + (((v9.2.1.toInt64 - v9.2.1.toInt64) - 1000000) * 4))) / 1200).toInt32), (v9.2.2.1 + ((v9.2.2.1.toInt64 * 5) / 1200).toInt32), v9.2.2.2.1, v9.2.2.2.2.1, v9.2.2.2.2.2.1, v9.2.2.2.2.2.2))]) S hr hlk hK hW9 [0, 1] rfl rfl (congrArg (fun (z : S7) => [aI G (h 18) 5 (nF w), aI G a 7 (pF z)]) eF).symm dL_closes_262
  refine lv_aload_n hx hb dL_closes_0 rfl (lv_at hl 1 rfl) ?_
  refine lv_iconst (v := 5) hx hb dL_closes_1 (by decide) ?_
  refine lv_dup2_11 hx hb dL_closes_2 rfl rfl ?_
  refine k_vld S hK hW 1 rfl (i := 5) (k := 5) (x := v.2.2.2.2.2.1) vi7_5 ix_5 rfl dL_closes_3 ?_
  refine lv_aload_n hx hb dL_closes_4 rfl (lv_at hl 1 rfl) ?_
  refine lv_iconst (v := 0) hx hb dL_closes_5 (by decide) ?_
  refine k_vld S hK hW 1 rfl (i := 0) (k := 0) (x := v.1) vi7_0 ix_0 rfl dL_closes_6 ?_
  refine lv_iconst (v := 2) hx hb dL_closes_7 (by decide) ?_
  refine lv_icmp_ne (tgt := 15) hx hb dL_closes_8 (by decide) (fun c_23 => ?_) (fun c_23 => ?_)
  ·
    refine lv_iconst (v := 0) hx hb dL_closes_15 (by decide) ?_
    refine lv_iadd hx hb dL_closes_16 ?_
    refine lv_topi (fun z_24 ez_24 => ?_)
    refine k_vst (f' := pF (v.1, v.2.1, v.2.2.1, v.2.2.2.1, v.2.2.2.2.1, z_24, v.2.2.2.2.2.2)) (ws' := [aI G (h 18) 5 (nF w), aI G a 7 (pF (v.1, v.2.1, v.2.2.1, v.2.2.2.1, v.2.2.2.2.1, z_24, v.2.2.2.2.2.2))]) S hK hW 1 rfl (i := 5) (k := 5) vi7_5 ix_5 (up_p5 _ _) rfl dL_closes_17 (fun H locs hW => ?_)
    refine lv_aload_n hx hb dL_closes_18 rfl (lv_at hl 1 rfl) ?_
    refine lv_iconst (v := 0) hx hb dL_closes_19 (by decide) ?_
    refine k_vld S hK hW 1 rfl (i := 0) (k := 0) (x := v.1) vi7_0 ix_0 rfl dL_closes_20 ?_
    refine lv_iconst (v := 1) hx hb dL_closes_21 (by decide) ?_
    refine lv_icmp_le (tgt := 26) hx hb dL_closes_22 (by decide) (fun c_25 => ?_) (fun c_25 => ?_)
    ·
      refine lv_aload_n hx hb dL_closes_26 rfl (lv_at hl 0 rfl) ?_
      refine lv_aload_n hx hb dL_closes_27 rfl (lv_at hl 1 rfl) ?_
      refine lv_iload_n hx hb dL_closes_28 rfl (lv_at hl 2 rfl) ?_
      refine k_callSi (As := [.ref (h 18), .ref a, .int (nI mm)]) (rest := []) (wr := []) (c_L_charge l G h a w (v.1, v.2.1, v.2.2.1, v.2.2.2.1, v.2.2.2.2.1, z_24, v.2.2.2.2.2.2) mm hw (by omega)) S hK hW gL_closes_L_charge rfl ⟨rfl, rfl⟩ nd_L_charge ⟨rfl, rfl⟩ [0, 1] [] rfl rfl rfl rfl (by decide) rfl hl.1 rfl dL_closes_29 ⟨Nat.zero_le _, Nat.zero_le _⟩ (fun H locs hW => ?_)
      have hW : Wd G A sS.heap [aI G (h 18) 5 (nF w), aI G a 7 (pF (v.1, v.2.1, v.2.2.1, v.2.2.2.1, v.2.2.2.2.1, z_24, v.2.2.2.2.2.2))] H locs := hW
      refine lv_aload_n hx hb dL_closes_32 rfl (lv_at hl 1 rfl) ?_
      refine lv_iconst (v := 3) hx hb dL_closes_33 (by decide) ?_
      refine k_vld S hK hW 1 rfl (i := 3) (k := 3) (x := v.2.2.2.1) vi7_3 ix_3 rfl dL_closes_34 ?_
      refine lv_iadd hx hb dL_closes_35 ?_
      refine lv_istore_n (lv' := [(3, .int ((F_L_charge w (v.1, v.2.1, v.2.2.1, v.2.2.2.1, v.2.2.2.2.1, z_24, v.2.2.2.2.2.2) mm) + v.2.2.2.1)), (0, .ref (h 18)), (1, .ref a), (2, .int (nI mm))]) hx hb dL_closes_36 rfl hl (by decide) rfl (fun ls hl => ?_)
      refine lv_aload_n hx hb dL_closes_37 rfl (lv_at hl 2 rfl) ?_
      refine lv_iconst (v := 1) hx hb dL_closes_38 (by decide) ?_
      refine k_vld S hK hW 1 rfl (i := 1) (k := 1) (x := v.2.1) vi7_1 ix_1 rfl dL_closes_39 ?_
      refine lv_aload_n hx hb dL_closes_40 rfl (lv_at hl 2 rfl) ?_
      refine lv_iconst (v := 2) hx hb dL_closes_41 (by decide) ?_
      refine k_vld S hK hW 1 rfl (i := 2) (k := 2) (x := v.2.2.1) vi7_2 ix_2 rfl dL_closes_42 ?_
      refine lv_icmp_le (tgt := 56) hx hb dL_closes_43 (by decide) (fun c_26 => ?_) (fun c_26 => ?_)
      ·
        refine lv_iconst (v := 0) hx hb dL_closes_56 (by decide) ?_
        refine lv_iload_n hx hb dL_closes_57 rfl (lv_at hl 0 rfl) ?_
        refine lv_icmp_lt (tgt := 65) hx hb dL_closes_58 (by decide) (fun c_27 => ?_) (fun c_27 => ?_)
        ·
          refine lv_iconst (v := 0) hx hb dL_closes_65 (by decide) ?_
          refine lv_istore (lv' := [(4, .int 0), (3, .int ((F_L_charge w (v.1, v.2.1, v.2.2.1, v.2.2.2.1, v.2.2.2.2.1, z_24, v.2.2.2.2.2.2) mm) + v.2.2.2.1)), (0, .ref (h 18)), (1, .ref a), (2, .int (nI mm))]) hx hb dL_closes_66 hl (by decide) rfl (fun ls hl => ?_)
          refine lv_aload_n hx hb dL_closes_68 rfl (lv_at hl 3 rfl) ?_
          refine lv_iconst (v := 1) hx hb dL_closes_69 (by decide) ?_
          refine lv_dup2_11 hx hb dL_closes_70 rfl rfl ?_
          refine k_vld S hK hW 1 rfl (i := 1) (k := 1) (x := v.2.1) vi7_1 ix_1 rfl dL_closes_71 ?_
          refine lv_iload hx hb dL_closes_72 (lv_at hl 0 rfl) ?_
          refine lv_if_eq (tgt := 81) hx hb dL_closes_74 (by decide) (fun c_28 => ?_) (fun c_28 => ?_)
          ·
            refine lv_iconst (v := 0) hx hb dL_closes_81 (by decide) ?_
            refine lv_isub hx hb dL_closes_82 ?_
            refine lv_topi (fun z_29 ez_29 => ?_)
            refine k_vst (f' := pF (v.1, z_29, v.2.2.1, v.2.2.2.1, v.2.2.2.2.1, z_24, v.2.2.2.2.2.2)) (ws' := [aI G (h 18) 5 (nF w), aI G a 7 (pF (v.1, z_29, v.2.2.1, v.2.2.2.1, v.2.2.2.2.1, z_24, v.2.2.2.2.2.2))]) S hK hW 1 rfl (i := 1) (k := 1) vi7_1 ix_1 (up_p1 _ _) rfl dL_closes_83 (fun H locs hW => ?_)
            refine lv_aload_n hx hb dL_closes_84 rfl (lv_at hl 3 rfl) ?_
            refine lv_iconst (v := 3) hx hb dL_closes_85 (by decide) ?_
            refine lv_iload hx hb dL_closes_86 (lv_at hl 0 rfl) ?_
            refine lv_if_eq (tgt := 95) hx hb dL_closes_88 (by decide) (fun c_30 => ?_) (fun c_30 => ?_)
            ·
              refine lv_iload_n hx hb dL_closes_95 rfl (lv_at hl 1 rfl) ?_
              refine lv_topi (fun z_31 ez_31 => ?_)
              refine k_vst (f' := pF (v.1, z_29, v.2.2.1, z_31, v.2.2.2.2.1, z_24, v.2.2.2.2.2.2)) (ws' := [aI G (h 18) 5 (nF w), aI G a 7 (pF (v.1, z_29, v.2.2.1, z_31, v.2.2.2.2.1, z_24, v.2.2.2.2.2.2))]) S hK hW 1 rfl (i := 3) (k := 3) vi7_3 ix_3 (up_p3 _ _) rfl dL_closes_96 (fun H locs hW => ?_)
              refine lv_aload_n hx hb dL_closes_97 rfl (lv_at hl 3 rfl) ?_
              refine lv_iconst (v := 4) hx hb dL_closes_98 (by decide) ?_
              refine lv_iload hx hb dL_closes_99 (lv_at hl 0 rfl) ?_
              refine lv_if_eq (tgt := 108) hx hb dL_closes_101 (by decide) (fun c_32 => ?_) (fun c_32 => ?_)
              ·
                refine lv_aload_n hx hb dL_closes_108 rfl (lv_at hl 3 rfl) ?_
                refine lv_iconst (v := 4) hx hb dL_closes_109 (by decide) ?_
                refine k_vld S hK hW 1 rfl (i := 4) (k := 4) (x := v.2.2.2.2.1) vi7_4 ix_4 rfl dL_closes_110 ?_
                refine lv_iconst (v := 1) hx hb dL_closes_111 (by decide) ?_
                refine lv_iadd hx hb dL_closes_112 ?_
                refine lv_topi (fun z_33 ez_33 => ?_)
                refine k_vst (f' := pF (v.1, z_29, v.2.2.1, z_31, z_33, z_24, v.2.2.2.2.2.2)) (ws' := [aI G (h 18) 5 (nF w), aI G a 7 (pF (v.1, z_29, v.2.2.1, z_31, z_33, z_24, v.2.2.2.2.2.2))]) S hK hW 1 rfl (i := 4) (k := 4) vi7_4 ix_4 (up_p4 _ _) rfl dL_closes_113 (fun H locs hW => ?_)
                refine lv_aload_n hx hb dL_closes_114 rfl (lv_at hl 3 rfl) ?_
                refine lv_iconst (v := 0) hx hb dL_closes_115 (by decide) ?_
                refine lv_iload hx hb dL_closes_116 (lv_at hl 0 rfl) ?_
                refine lv_if_eq (tgt := 125) hx hb dL_closes_118 (by decide) (fun c_34 => ?_) (fun c_34 => ?_)
                ·
                  refine lv_iconst (v := 1) hx hb dL_closes_125 (by decide) ?_
                  refine k_vst (f' := pF (1, z_29, v.2.2.1, z_31, z_33, z_24, v.2.2.2.2.2.2)) (ws' := [aI G (h 18) 5 (nF w), aI G a 7 (pF (1, z_29, v.2.2.1, z_31, z_33, z_24, v.2.2.2.2.2.2))]) S hK hW 1 rfl (i := 0) (k := 0) vi7_0 ix_0 (up_p0 _ _) rfl dL_closes_126 (fun H locs hW => ?_)
                  refine lv_aload_n hx hb dL_closes_127 rfl (lv_at hl 3 rfl) ?_
                  refine lv_iconst (v := 4) hx hb dL_closes_128 (by decide) ?_
                  refine k_vld S hK hW 1 rfl (i := 4) (k := 4) (x := z_33) vi7_4 ix_4 rfl dL_closes_129 ?_
                  refine lv_iconst (v := 3) hx hb dL_closes_130 (by decide) ?_
                  refine lv_icmp_ne (tgt := 155) hx hb dL_closes_131 (by decide) (fun c_35 => ?_) (fun c_35 => ?_)
                  ·
                    have hW9 := hW
                    have hl9 := hl
                    subst ez_24
                    subst ez_29
                    subst ez_31
                    subst ez_33
                    have eF : (F_L_closes w v mm) = Lp_L_closes  0 0 (1, (v.2.1 - 0), v.2.2.1, ((F_L_charge w (v.1, v.2.1, v.2.2.1, v.2.2.2.1, v.2.2.2.2.1, (v.2.2.2.2.2.1 + 0), v.2.2.2.2.2.2) mm) + v.2.2.2.1), (v.2.2.2.2.1 + 1), (v.2.2.2.2.2.1 + 0), v.2.2.2.2.2.2) := by
                      unfold F_L_closes
                      rw [if_neg c_23, if_pos c_25, if_pos c_26, if_pos c_27, if_neg c_35]
                    exact key 0 0 (1, (v.2.1 - 0), v.2.2.1, ((F_L_charge w (v.1, v.2.1, v.2.2.1, v.2.2.2.1, v.2.2.2.2.1, (v.2.2.2.2.2.1 + 0), v.2.2.2.2.2.2) mm) + v.2.2.2.1), (v.2.2.2.2.1 + 1), (v.2.2.2.2.2.1 + 0), v.2.2.2.2.2.2) (by omega) eF.symm _ _ _ (hW9.re [0, 1] rfl rfl) (lv_sub hl9 [2, 3] rfl)
                  ·
                    refine lv_aload_n hx hb dL_closes_134 rfl (lv_at hl 3 rfl) ?_
                    refine lv_iconst (v := 0) hx hb dL_closes_135 (by decide) ?_
                    refine lv_iconst (v := 2) hx hb dL_closes_136 (by decide) ?_
                    refine k_vst (f' := pF (2, z_29, v.2.2.1, z_31, z_33, z_24, v.2.2.2.2.2.2)) (ws' := [aI G (h 18) 5 (nF w), aI G a 7 (pF (2, z_29, v.2.2.1, z_31, z_33, z_24, v.2.2.2.2.2.2))]) S hK hW 1 rfl (i := 0) (k := 0) vi7_0 ix_0 (up_p0 _ _) rfl dL_closes_137 (fun H locs hW => ?_)
                    refine lv_aload_n hx hb dL_closes_138 rfl (lv_at hl 3 rfl) ?_
                    refine lv_iconst (v := 1) hx hb dL_closes_139 (by decide) ?_
                    refine lv_iconst (v := 0) hx hb dL_closes_140 (by decide) ?_
                    refine k_vst (f' := pF (2, 0, v.2.2.1, z_31, z_33, z_24, v.2.2.2.2.2.2)) (ws' := [aI G (h 18) 5 (nF w), aI G a 7 (pF (2, 0, v.2.2.1, z_31, z_33, z_24, v.2.2.2.2.2.2))]) S hK hW 1 rfl (i := 1) (k := 1) vi7_1 ix_1 (up_p1 _ _) rfl dL_closes_141 (fun H locs hW => ?_)
                    refine lv_aload_n hx hb dL_closes_142 rfl (lv_at hl 3 rfl) ?_
                    refine lv_iconst (v := 2) hx hb dL_closes_143 (by decide) ?_
                    refine lv_iconst (v := 0) hx hb dL_closes_144 (by decide) ?_
                    refine k_vst (f' := pF (2, 0, 0, z_31, z_33, z_24, v.2.2.2.2.2.2)) (ws' := [aI G (h 18) 5 (nF w), aI G a 7 (pF (2, 0, 0, z_31, z_33, z_24, v.2.2.2.2.2.2))]) S hK hW 1 rfl (i := 2) (k := 2) vi7_2 ix_2 (up_p2 _ _) rfl dL_closes_145 (fun H locs hW => ?_)
                    refine lv_aload_n hx hb dL_closes_146 rfl (lv_at hl 3 rfl) ?_
                    refine lv_iconst (v := 4) hx hb dL_closes_147 (by decide) ?_
                    refine lv_iconst (v := 0) hx hb dL_closes_148 (by decide) ?_
                    refine k_vst (f' := pF (2, 0, 0, z_31, 0, z_24, v.2.2.2.2.2.2)) (ws' := [aI G (h 18) 5 (nF w), aI G a 7 (pF (2, 0, 0, z_31, 0, z_24, v.2.2.2.2.2.2))]) S hK hW 1 rfl (i := 4) (k := 4) vi7_4 ix_4 (up_p4 _ _) rfl dL_closes_149 (fun H locs hW => ?_)
                    refine lv_aload_n hx hb dL_closes_150 rfl (lv_at hl 3 rfl) ?_
                    refine lv_iconst (v := 5) hx hb dL_closes_151 (by decide) ?_
                    refine lv_iconst (v := 0) hx hb dL_closes_152 (by decide) ?_
                    refine k_vst (f' := pF (2, 0, 0, z_31, 0, 0, v.2.2.2.2.2.2)) (ws' := [aI G (h 18) 5 (nF w), aI G a 7 (pF (2, 0, 0, z_31, 0, 0, v.2.2.2.2.2.2))]) S hK hW 1 rfl (i := 5) (k := 5) vi7_5 ix_5 (up_p5 _ _) rfl dL_closes_153 (fun H locs hW => ?_)
                    have hW9 := hW
                    have hl9 := hl
                    subst ez_24
                    subst ez_29
                    subst ez_31
                    subst ez_33
                    have eF : (F_L_closes w v mm) = (2, 0, 0, ((F_L_charge w (v.1, v.2.1, v.2.2.1, v.2.2.2.1, v.2.2.2.2.1, (v.2.2.2.2.2.1 + 0), v.2.2.2.2.2.2) mm) + v.2.2.2.1), 0, 0, v.2.2.2.2.2.2) := by
                      unfold F_L_closes
                      rw [if_neg c_23, if_pos c_25, if_pos c_26, if_pos c_27, if_pos c_35]
                    exact k_vret (wf := [aI G (h 18) 5 (nF w), aI G a 7 (pF (2, 0, 0, ((F_L_charge w (v.1, v.2.1, v.2.2.1, v.2.2.2.1, v.2.2.2.2.1, (v.2.2.2.2.2.1 + 0), v.2.2.2.2.2.2) mm) + v.2.2.2.1), 0, 0, v.2.2.2.2.2.2))]) S hr hlk hK hW9 [0, 1] rfl rfl (congrArg (fun (z : S7) => [aI G (h 18) 5 (nF w), aI G a 7 (pF z)]) eF).symm dL_closes_154
                ·
                  exact absurd c_34 (by decide)
              ·
                exact absurd c_32 (by decide)
            ·
              exact absurd c_30 (by decide)
          ·
            exact absurd c_28 (by decide)
        ·
          refine lv_iconst (v := 1) hx hb dL_closes_61 (by decide) ?_
          refine lv_goto (tgt := 66) hx hb dL_closes_62 (by decide) ?_
          refine lv_istore (lv' := [(4, .int 1), (3, .int ((F_L_charge w (v.1, v.2.1, v.2.2.1, v.2.2.2.1, v.2.2.2.2.1, z_24, v.2.2.2.2.2.2) mm) + v.2.2.2.1)), (0, .ref (h 18)), (1, .ref a), (2, .int (nI mm))]) hx hb dL_closes_66 hl (by decide) rfl (fun ls hl => ?_)
          refine lv_aload_n hx hb dL_closes_68 rfl (lv_at hl 3 rfl) ?_
          refine lv_iconst (v := 1) hx hb dL_closes_69 (by decide) ?_
          refine lv_dup2_11 hx hb dL_closes_70 rfl rfl ?_
          refine k_vld S hK hW 1 rfl (i := 1) (k := 1) (x := v.2.1) vi7_1 ix_1 rfl dL_closes_71 ?_
          refine lv_iload hx hb dL_closes_72 (lv_at hl 0 rfl) ?_
          refine lv_if_eq (tgt := 81) hx hb dL_closes_74 (by decide) (fun c_36 => ?_) (fun c_36 => ?_)
          ·
            exact absurd c_36 (by decide)
          ·
            refine lv_iload_n hx hb dL_closes_77 rfl (lv_at hl 1 rfl) ?_
            refine lv_goto (tgt := 82) hx hb dL_closes_78 (by decide) ?_
            refine lv_isub hx hb dL_closes_82 ?_
            refine lv_topi (fun z_37 ez_37 => ?_)
            refine k_vst (f' := pF (v.1, z_37, v.2.2.1, v.2.2.2.1, v.2.2.2.2.1, z_24, v.2.2.2.2.2.2)) (ws' := [aI G (h 18) 5 (nF w), aI G a 7 (pF (v.1, z_37, v.2.2.1, v.2.2.2.1, v.2.2.2.2.1, z_24, v.2.2.2.2.2.2))]) S hK hW 1 rfl (i := 1) (k := 1) vi7_1 ix_1 (up_p1 _ _) rfl dL_closes_83 (fun H locs hW => ?_)
            refine lv_aload_n hx hb dL_closes_84 rfl (lv_at hl 3 rfl) ?_
            refine lv_iconst (v := 3) hx hb dL_closes_85 (by decide) ?_
            refine lv_iload hx hb dL_closes_86 (lv_at hl 0 rfl) ?_
            refine lv_if_eq (tgt := 95) hx hb dL_closes_88 (by decide) (fun c_38 => ?_) (fun c_38 => ?_)
            ·
              exact absurd c_38 (by decide)
            ·
              refine lv_iconst (v := 0) hx hb dL_closes_91 (by decide) ?_
              refine lv_goto (tgt := 96) hx hb dL_closes_92 (by decide) ?_
              refine k_vst (f' := pF (v.1, z_37, v.2.2.1, 0, v.2.2.2.2.1, z_24, v.2.2.2.2.2.2)) (ws' := [aI G (h 18) 5 (nF w), aI G a 7 (pF (v.1, z_37, v.2.2.1, 0, v.2.2.2.2.1, z_24, v.2.2.2.2.2.2))]) S hK hW 1 rfl (i := 3) (k := 3) vi7_3 ix_3 (up_p3 _ _) rfl dL_closes_96 (fun H locs hW => ?_)
              refine lv_aload_n hx hb dL_closes_97 rfl (lv_at hl 3 rfl) ?_
              refine lv_iconst (v := 4) hx hb dL_closes_98 (by decide) ?_
              refine lv_iload hx hb dL_closes_99 (lv_at hl 0 rfl) ?_
              refine lv_if_eq (tgt := 108) hx hb dL_closes_101 (by decide) (fun c_39 => ?_) (fun c_39 => ?_)
              ·
                exact absurd c_39 (by decide)
              ·
                refine lv_iconst (v := 0) hx hb dL_closes_104 (by decide) ?_
                refine lv_goto (tgt := 113) hx hb dL_closes_105 (by decide) ?_
                refine k_vst (f' := pF (v.1, z_37, v.2.2.1, 0, 0, z_24, v.2.2.2.2.2.2)) (ws' := [aI G (h 18) 5 (nF w), aI G a 7 (pF (v.1, z_37, v.2.2.1, 0, 0, z_24, v.2.2.2.2.2.2))]) S hK hW 1 rfl (i := 4) (k := 4) vi7_4 ix_4 (up_p4 _ _) rfl dL_closes_113 (fun H locs hW => ?_)
                refine lv_aload_n hx hb dL_closes_114 rfl (lv_at hl 3 rfl) ?_
                refine lv_iconst (v := 0) hx hb dL_closes_115 (by decide) ?_
                refine lv_iload hx hb dL_closes_116 (lv_at hl 0 rfl) ?_
                refine lv_if_eq (tgt := 125) hx hb dL_closes_118 (by decide) (fun c_40 => ?_) (fun c_40 => ?_)
                ·
                  exact absurd c_40 (by decide)
                ·
                  refine lv_iconst (v := 0) hx hb dL_closes_121 (by decide) ?_
                  refine lv_goto (tgt := 126) hx hb dL_closes_122 (by decide) ?_
                  refine k_vst (f' := pF (0, z_37, v.2.2.1, 0, 0, z_24, v.2.2.2.2.2.2)) (ws' := [aI G (h 18) 5 (nF w), aI G a 7 (pF (0, z_37, v.2.2.1, 0, 0, z_24, v.2.2.2.2.2.2))]) S hK hW 1 rfl (i := 0) (k := 0) vi7_0 ix_0 (up_p0 _ _) rfl dL_closes_126 (fun H locs hW => ?_)
                  refine lv_aload_n hx hb dL_closes_127 rfl (lv_at hl 3 rfl) ?_
                  refine lv_iconst (v := 4) hx hb dL_closes_128 (by decide) ?_
                  refine k_vld S hK hW 1 rfl (i := 4) (k := 4) (x := 0) vi7_4 ix_4 rfl dL_closes_129 ?_
                  refine lv_iconst (v := 3) hx hb dL_closes_130 (by decide) ?_
                  refine lv_icmp_ne (tgt := 155) hx hb dL_closes_131 (by decide) (fun c_41 => ?_) (fun c_41 => ?_)
                  ·
                    have hW9 := hW
                    have hl9 := hl
                    subst ez_24
                    subst ez_37
                    have eF : (F_L_closes w v mm) = Lp_L_closes  0 0 (0, (v.2.1 - ((F_L_charge w (v.1, v.2.1, v.2.2.1, v.2.2.2.1, v.2.2.2.2.1, (v.2.2.2.2.2.1 + 0), v.2.2.2.2.2.2) mm) + v.2.2.2.1)), v.2.2.1, 0, 0, (v.2.2.2.2.2.1 + 0), v.2.2.2.2.2.2) := by
                      unfold F_L_closes
                      rw [if_neg c_23, if_pos c_25, if_pos c_26, if_neg c_27]
                    exact key 0 0 (0, (v.2.1 - ((F_L_charge w (v.1, v.2.1, v.2.2.1, v.2.2.2.1, v.2.2.2.2.1, (v.2.2.2.2.2.1 + 0), v.2.2.2.2.2.2) mm) + v.2.2.2.1)), v.2.2.1, 0, 0, (v.2.2.2.2.2.1 + 0), v.2.2.2.2.2.2) (by omega) eF.symm _ _ _ (hW9.re [0, 1] rfl rfl) (lv_sub hl9 [2, 3] rfl)
                  ·
                    exact absurd c_41 (by decide)
      ·
        refine lv_aload_n hx hb dL_closes_46 rfl (lv_at hl 2 rfl) ?_
        refine lv_iconst (v := 1) hx hb dL_closes_47 (by decide) ?_
        refine k_vld S hK hW 1 rfl (i := 1) (k := 1) (x := v.2.1) vi7_1 ix_1 rfl dL_closes_48 ?_
        refine lv_aload_n hx hb dL_closes_49 rfl (lv_at hl 2 rfl) ?_
        refine lv_iconst (v := 2) hx hb dL_closes_50 (by decide) ?_
        refine k_vld S hK hW 1 rfl (i := 2) (k := 2) (x := v.2.2.1) vi7_2 ix_2 rfl dL_closes_51 ?_
        refine lv_isub hx hb dL_closes_52 ?_
        refine lv_goto (tgt := 57) hx hb dL_closes_53 (by decide) ?_
        refine lv_iload_n hx hb dL_closes_57 rfl (lv_at hl 0 rfl) ?_
        refine lv_icmp_lt (tgt := 65) hx hb dL_closes_58 (by decide) (fun c_42 => ?_) (fun c_42 => ?_)
        ·
          refine lv_iconst (v := 0) hx hb dL_closes_65 (by decide) ?_
          refine lv_istore (lv' := [(4, .int 0), (3, .int ((F_L_charge w (v.1, v.2.1, v.2.2.1, v.2.2.2.1, v.2.2.2.2.1, z_24, v.2.2.2.2.2.2) mm) + v.2.2.2.1)), (0, .ref (h 18)), (1, .ref a), (2, .int (nI mm))]) hx hb dL_closes_66 hl (by decide) rfl (fun ls hl => ?_)
          refine lv_aload_n hx hb dL_closes_68 rfl (lv_at hl 3 rfl) ?_
          refine lv_iconst (v := 1) hx hb dL_closes_69 (by decide) ?_
          refine lv_dup2_11 hx hb dL_closes_70 rfl rfl ?_
          refine k_vld S hK hW 1 rfl (i := 1) (k := 1) (x := v.2.1) vi7_1 ix_1 rfl dL_closes_71 ?_
          refine lv_iload hx hb dL_closes_72 (lv_at hl 0 rfl) ?_
          refine lv_if_eq (tgt := 81) hx hb dL_closes_74 (by decide) (fun c_43 => ?_) (fun c_43 => ?_)
          ·
            refine lv_iconst (v := 0) hx hb dL_closes_81 (by decide) ?_
            refine lv_isub hx hb dL_closes_82 ?_
            refine lv_topi (fun z_44 ez_44 => ?_)
            refine k_vst (f' := pF (v.1, z_44, v.2.2.1, v.2.2.2.1, v.2.2.2.2.1, z_24, v.2.2.2.2.2.2)) (ws' := [aI G (h 18) 5 (nF w), aI G a 7 (pF (v.1, z_44, v.2.2.1, v.2.2.2.1, v.2.2.2.2.1, z_24, v.2.2.2.2.2.2))]) S hK hW 1 rfl (i := 1) (k := 1) vi7_1 ix_1 (up_p1 _ _) rfl dL_closes_83 (fun H locs hW => ?_)
            refine lv_aload_n hx hb dL_closes_84 rfl (lv_at hl 3 rfl) ?_
            refine lv_iconst (v := 3) hx hb dL_closes_85 (by decide) ?_
            refine lv_iload hx hb dL_closes_86 (lv_at hl 0 rfl) ?_
            refine lv_if_eq (tgt := 95) hx hb dL_closes_88 (by decide) (fun c_45 => ?_) (fun c_45 => ?_)
            ·
              refine lv_iload_n hx hb dL_closes_95 rfl (lv_at hl 1 rfl) ?_
              refine lv_topi (fun z_46 ez_46 => ?_)
              refine k_vst (f' := pF (v.1, z_44, v.2.2.1, z_46, v.2.2.2.2.1, z_24, v.2.2.2.2.2.2)) (ws' := [aI G (h 18) 5 (nF w), aI G a 7 (pF (v.1, z_44, v.2.2.1, z_46, v.2.2.2.2.1, z_24, v.2.2.2.2.2.2))]) S hK hW 1 rfl (i := 3) (k := 3) vi7_3 ix_3 (up_p3 _ _) rfl dL_closes_96 (fun H locs hW => ?_)
              refine lv_aload_n hx hb dL_closes_97 rfl (lv_at hl 3 rfl) ?_
              refine lv_iconst (v := 4) hx hb dL_closes_98 (by decide) ?_
              refine lv_iload hx hb dL_closes_99 (lv_at hl 0 rfl) ?_
              refine lv_if_eq (tgt := 108) hx hb dL_closes_101 (by decide) (fun c_47 => ?_) (fun c_47 => ?_)
              ·
                refine lv_aload_n hx hb dL_closes_108 rfl (lv_at hl 3 rfl) ?_
                refine lv_iconst (v := 4) hx hb dL_closes_109 (by decide) ?_
                refine k_vld S hK hW 1 rfl (i := 4) (k := 4) (x := v.2.2.2.2.1) vi7_4 ix_4 rfl dL_closes_110 ?_
                refine lv_iconst (v := 1) hx hb dL_closes_111 (by decide) ?_
                refine lv_iadd hx hb dL_closes_112 ?_
                refine lv_topi (fun z_48 ez_48 => ?_)
                refine k_vst (f' := pF (v.1, z_44, v.2.2.1, z_46, z_48, z_24, v.2.2.2.2.2.2)) (ws' := [aI G (h 18) 5 (nF w), aI G a 7 (pF (v.1, z_44, v.2.2.1, z_46, z_48, z_24, v.2.2.2.2.2.2))]) S hK hW 1 rfl (i := 4) (k := 4) vi7_4 ix_4 (up_p4 _ _) rfl dL_closes_113 (fun H locs hW => ?_)
                refine lv_aload_n hx hb dL_closes_114 rfl (lv_at hl 3 rfl) ?_
                refine lv_iconst (v := 0) hx hb dL_closes_115 (by decide) ?_
                refine lv_iload hx hb dL_closes_116 (lv_at hl 0 rfl) ?_
                refine lv_if_eq (tgt := 125) hx hb dL_closes_118 (by decide) (fun c_49 => ?_) (fun c_49 => ?_)
                ·
                  refine lv_iconst (v := 1) hx hb dL_closes_125 (by decide) ?_
                  refine k_vst (f' := pF (1, z_44, v.2.2.1, z_46, z_48, z_24, v.2.2.2.2.2.2)) (ws' := [aI G (h 18) 5 (nF w), aI G a 7 (pF (1, z_44, v.2.2.1, z_46, z_48, z_24, v.2.2.2.2.2.2))]) S hK hW 1 rfl (i := 0) (k := 0) vi7_0 ix_0 (up_p0 _ _) rfl dL_closes_126 (fun H locs hW => ?_)
                  refine lv_aload_n hx hb dL_closes_127 rfl (lv_at hl 3 rfl) ?_
                  refine lv_iconst (v := 4) hx hb dL_closes_128 (by decide) ?_
                  refine k_vld S hK hW 1 rfl (i := 4) (k := 4) (x := z_48) vi7_4 ix_4 rfl dL_closes_129 ?_
                  refine lv_iconst (v := 3) hx hb dL_closes_130 (by decide) ?_
                  refine lv_icmp_ne (tgt := 155) hx hb dL_closes_131 (by decide) (fun c_50 => ?_) (fun c_50 => ?_)
                  ·
                    have hW9 := hW
                    have hl9 := hl
                    subst ez_24
                    subst ez_44
                    subst ez_46
                    subst ez_48
                    have eF : (F_L_closes w v mm) = Lp_L_closes  0 0 (1, (v.2.1 - 0), v.2.2.1, ((F_L_charge w (v.1, v.2.1, v.2.2.1, v.2.2.2.1, v.2.2.2.2.1, (v.2.2.2.2.2.1 + 0), v.2.2.2.2.2.2) mm) + v.2.2.2.1), (v.2.2.2.2.1 + 1), (v.2.2.2.2.2.1 + 0), v.2.2.2.2.2.2) := by
                      unfold F_L_closes
                      rw [if_neg c_23, if_pos c_25, if_neg c_26, if_pos c_42, if_neg c_50]
                    exact key 0 0 (1, (v.2.1 - 0), v.2.2.1, ((F_L_charge w (v.1, v.2.1, v.2.2.1, v.2.2.2.1, v.2.2.2.2.1, (v.2.2.2.2.2.1 + 0), v.2.2.2.2.2.2) mm) + v.2.2.2.1), (v.2.2.2.2.1 + 1), (v.2.2.2.2.2.1 + 0), v.2.2.2.2.2.2) (by omega) eF.symm _ _ _ (hW9.re [0, 1] rfl rfl) (lv_sub hl9 [2, 3] rfl)
                  ·
                    refine lv_aload_n hx hb dL_closes_134 rfl (lv_at hl 3 rfl) ?_
                    refine lv_iconst (v := 0) hx hb dL_closes_135 (by decide) ?_
                    refine lv_iconst (v := 2) hx hb dL_closes_136 (by decide) ?_
                    refine k_vst (f' := pF (2, z_44, v.2.2.1, z_46, z_48, z_24, v.2.2.2.2.2.2)) (ws' := [aI G (h 18) 5 (nF w), aI G a 7 (pF (2, z_44, v.2.2.1, z_46, z_48, z_24, v.2.2.2.2.2.2))]) S hK hW 1 rfl (i := 0) (k := 0) vi7_0 ix_0 (up_p0 _ _) rfl dL_closes_137 (fun H locs hW => ?_)
                    refine lv_aload_n hx hb dL_closes_138 rfl (lv_at hl 3 rfl) ?_
                    refine lv_iconst (v := 1) hx hb dL_closes_139 (by decide) ?_
                    refine lv_iconst (v := 0) hx hb dL_closes_140 (by decide) ?_
                    refine k_vst (f' := pF (2, 0, v.2.2.1, z_46, z_48, z_24, v.2.2.2.2.2.2)) (ws' := [aI G (h 18) 5 (nF w), aI G a 7 (pF (2, 0, v.2.2.1, z_46, z_48, z_24, v.2.2.2.2.2.2))]) S hK hW 1 rfl (i := 1) (k := 1) vi7_1 ix_1 (up_p1 _ _) rfl dL_closes_141 (fun H locs hW => ?_)
                    refine lv_aload_n hx hb dL_closes_142 rfl (lv_at hl 3 rfl) ?_
                    refine lv_iconst (v := 2) hx hb dL_closes_143 (by decide) ?_
                    refine lv_iconst (v := 0) hx hb dL_closes_144 (by decide) ?_
                    refine k_vst (f' := pF (2, 0, 0, z_46, z_48, z_24, v.2.2.2.2.2.2)) (ws' := [aI G (h 18) 5 (nF w), aI G a 7 (pF (2, 0, 0, z_46, z_48, z_24, v.2.2.2.2.2.2))]) S hK hW 1 rfl (i := 2) (k := 2) vi7_2 ix_2 (up_p2 _ _) rfl dL_closes_145 (fun H locs hW => ?_)
                    refine lv_aload_n hx hb dL_closes_146 rfl (lv_at hl 3 rfl) ?_
                    refine lv_iconst (v := 4) hx hb dL_closes_147 (by decide) ?_
                    refine lv_iconst (v := 0) hx hb dL_closes_148 (by decide) ?_
                    refine k_vst (f' := pF (2, 0, 0, z_46, 0, z_24, v.2.2.2.2.2.2)) (ws' := [aI G (h 18) 5 (nF w), aI G a 7 (pF (2, 0, 0, z_46, 0, z_24, v.2.2.2.2.2.2))]) S hK hW 1 rfl (i := 4) (k := 4) vi7_4 ix_4 (up_p4 _ _) rfl dL_closes_149 (fun H locs hW => ?_)
                    refine lv_aload_n hx hb dL_closes_150 rfl (lv_at hl 3 rfl) ?_
                    refine lv_iconst (v := 5) hx hb dL_closes_151 (by decide) ?_
                    refine lv_iconst (v := 0) hx hb dL_closes_152 (by decide) ?_
                    refine k_vst (f' := pF (2, 0, 0, z_46, 0, 0, v.2.2.2.2.2.2)) (ws' := [aI G (h 18) 5 (nF w), aI G a 7 (pF (2, 0, 0, z_46, 0, 0, v.2.2.2.2.2.2))]) S hK hW 1 rfl (i := 5) (k := 5) vi7_5 ix_5 (up_p5 _ _) rfl dL_closes_153 (fun H locs hW => ?_)
                    have hW9 := hW
                    have hl9 := hl
                    subst ez_24
                    subst ez_44
                    subst ez_46
                    subst ez_48
                    have eF : (F_L_closes w v mm) = (2, 0, 0, ((F_L_charge w (v.1, v.2.1, v.2.2.1, v.2.2.2.1, v.2.2.2.2.1, (v.2.2.2.2.2.1 + 0), v.2.2.2.2.2.2) mm) + v.2.2.2.1), 0, 0, v.2.2.2.2.2.2) := by
                      unfold F_L_closes
                      rw [if_neg c_23, if_pos c_25, if_neg c_26, if_pos c_42, if_pos c_50]
                    exact k_vret (wf := [aI G (h 18) 5 (nF w), aI G a 7 (pF (2, 0, 0, ((F_L_charge w (v.1, v.2.1, v.2.2.1, v.2.2.2.1, v.2.2.2.2.1, (v.2.2.2.2.2.1 + 0), v.2.2.2.2.2.2) mm) + v.2.2.2.1), 0, 0, v.2.2.2.2.2.2))]) S hr hlk hK hW9 [0, 1] rfl rfl (congrArg (fun (z : S7) => [aI G (h 18) 5 (nF w), aI G a 7 (pF z)]) eF).symm dL_closes_154
                ·
                  exact absurd c_49 (by decide)
              ·
                exact absurd c_47 (by decide)
            ·
              exact absurd c_45 (by decide)
          ·
            exact absurd c_43 (by decide)
        ·
          refine lv_iconst (v := 1) hx hb dL_closes_61 (by decide) ?_
          refine lv_goto (tgt := 66) hx hb dL_closes_62 (by decide) ?_
          refine lv_istore (lv' := [(4, .int 1), (3, .int ((F_L_charge w (v.1, v.2.1, v.2.2.1, v.2.2.2.1, v.2.2.2.2.1, z_24, v.2.2.2.2.2.2) mm) + v.2.2.2.1)), (0, .ref (h 18)), (1, .ref a), (2, .int (nI mm))]) hx hb dL_closes_66 hl (by decide) rfl (fun ls hl => ?_)
          refine lv_aload_n hx hb dL_closes_68 rfl (lv_at hl 3 rfl) ?_
          refine lv_iconst (v := 1) hx hb dL_closes_69 (by decide) ?_
          refine lv_dup2_11 hx hb dL_closes_70 rfl rfl ?_
          refine k_vld S hK hW 1 rfl (i := 1) (k := 1) (x := v.2.1) vi7_1 ix_1 rfl dL_closes_71 ?_
          refine lv_iload hx hb dL_closes_72 (lv_at hl 0 rfl) ?_
          refine lv_if_eq (tgt := 81) hx hb dL_closes_74 (by decide) (fun c_51 => ?_) (fun c_51 => ?_)
          ·
            exact absurd c_51 (by decide)
          ·
            refine lv_iload_n hx hb dL_closes_77 rfl (lv_at hl 1 rfl) ?_
            refine lv_goto (tgt := 82) hx hb dL_closes_78 (by decide) ?_
            refine lv_isub hx hb dL_closes_82 ?_
            refine lv_topi (fun z_52 ez_52 => ?_)
            refine k_vst (f' := pF (v.1, z_52, v.2.2.1, v.2.2.2.1, v.2.2.2.2.1, z_24, v.2.2.2.2.2.2)) (ws' := [aI G (h 18) 5 (nF w), aI G a 7 (pF (v.1, z_52, v.2.2.1, v.2.2.2.1, v.2.2.2.2.1, z_24, v.2.2.2.2.2.2))]) S hK hW 1 rfl (i := 1) (k := 1) vi7_1 ix_1 (up_p1 _ _) rfl dL_closes_83 (fun H locs hW => ?_)
            refine lv_aload_n hx hb dL_closes_84 rfl (lv_at hl 3 rfl) ?_
            refine lv_iconst (v := 3) hx hb dL_closes_85 (by decide) ?_
            refine lv_iload hx hb dL_closes_86 (lv_at hl 0 rfl) ?_
            refine lv_if_eq (tgt := 95) hx hb dL_closes_88 (by decide) (fun c_53 => ?_) (fun c_53 => ?_)
            ·
              exact absurd c_53 (by decide)
            ·
              refine lv_iconst (v := 0) hx hb dL_closes_91 (by decide) ?_
              refine lv_goto (tgt := 96) hx hb dL_closes_92 (by decide) ?_
              refine k_vst (f' := pF (v.1, z_52, v.2.2.1, 0, v.2.2.2.2.1, z_24, v.2.2.2.2.2.2)) (ws' := [aI G (h 18) 5 (nF w), aI G a 7 (pF (v.1, z_52, v.2.2.1, 0, v.2.2.2.2.1, z_24, v.2.2.2.2.2.2))]) S hK hW 1 rfl (i := 3) (k := 3) vi7_3 ix_3 (up_p3 _ _) rfl dL_closes_96 (fun H locs hW => ?_)
              refine lv_aload_n hx hb dL_closes_97 rfl (lv_at hl 3 rfl) ?_
              refine lv_iconst (v := 4) hx hb dL_closes_98 (by decide) ?_
              refine lv_iload hx hb dL_closes_99 (lv_at hl 0 rfl) ?_
              refine lv_if_eq (tgt := 108) hx hb dL_closes_101 (by decide) (fun c_54 => ?_) (fun c_54 => ?_)
              ·
                exact absurd c_54 (by decide)
              ·
                refine lv_iconst (v := 0) hx hb dL_closes_104 (by decide) ?_
                refine lv_goto (tgt := 113) hx hb dL_closes_105 (by decide) ?_
                refine k_vst (f' := pF (v.1, z_52, v.2.2.1, 0, 0, z_24, v.2.2.2.2.2.2)) (ws' := [aI G (h 18) 5 (nF w), aI G a 7 (pF (v.1, z_52, v.2.2.1, 0, 0, z_24, v.2.2.2.2.2.2))]) S hK hW 1 rfl (i := 4) (k := 4) vi7_4 ix_4 (up_p4 _ _) rfl dL_closes_113 (fun H locs hW => ?_)
                refine lv_aload_n hx hb dL_closes_114 rfl (lv_at hl 3 rfl) ?_
                refine lv_iconst (v := 0) hx hb dL_closes_115 (by decide) ?_
                refine lv_iload hx hb dL_closes_116 (lv_at hl 0 rfl) ?_
                refine lv_if_eq (tgt := 125) hx hb dL_closes_118 (by decide) (fun c_55 => ?_) (fun c_55 => ?_)
                ·
                  exact absurd c_55 (by decide)
                ·
                  refine lv_iconst (v := 0) hx hb dL_closes_121 (by decide) ?_
                  refine lv_goto (tgt := 126) hx hb dL_closes_122 (by decide) ?_
                  refine k_vst (f' := pF (0, z_52, v.2.2.1, 0, 0, z_24, v.2.2.2.2.2.2)) (ws' := [aI G (h 18) 5 (nF w), aI G a 7 (pF (0, z_52, v.2.2.1, 0, 0, z_24, v.2.2.2.2.2.2))]) S hK hW 1 rfl (i := 0) (k := 0) vi7_0 ix_0 (up_p0 _ _) rfl dL_closes_126 (fun H locs hW => ?_)
                  refine lv_aload_n hx hb dL_closes_127 rfl (lv_at hl 3 rfl) ?_
                  refine lv_iconst (v := 4) hx hb dL_closes_128 (by decide) ?_
                  refine k_vld S hK hW 1 rfl (i := 4) (k := 4) (x := 0) vi7_4 ix_4 rfl dL_closes_129 ?_
                  refine lv_iconst (v := 3) hx hb dL_closes_130 (by decide) ?_
                  refine lv_icmp_ne (tgt := 155) hx hb dL_closes_131 (by decide) (fun c_56 => ?_) (fun c_56 => ?_)
                  ·
                    have hW9 := hW
                    have hl9 := hl
                    subst ez_24
                    subst ez_52
                    have eF : (F_L_closes w v mm) = Lp_L_closes  0 0 (0, (v.2.1 - ((F_L_charge w (v.1, v.2.1, v.2.2.1, v.2.2.2.1, v.2.2.2.2.1, (v.2.2.2.2.2.1 + 0), v.2.2.2.2.2.2) mm) + v.2.2.2.1)), v.2.2.1, 0, 0, (v.2.2.2.2.2.1 + 0), v.2.2.2.2.2.2) := by
                      unfold F_L_closes
                      rw [if_neg c_23, if_pos c_25, if_neg c_26, if_neg c_42]
                    exact key 0 0 (0, (v.2.1 - ((F_L_charge w (v.1, v.2.1, v.2.2.1, v.2.2.2.1, v.2.2.2.2.1, (v.2.2.2.2.2.1 + 0), v.2.2.2.2.2.2) mm) + v.2.2.2.1)), v.2.2.1, 0, 0, (v.2.2.2.2.2.1 + 0), v.2.2.2.2.2.2) (by omega) eF.symm _ _ _ (hW9.re [0, 1] rfl rfl) (lv_sub hl9 [2, 3] rfl)
                  ·
                    exact absurd c_56 (by decide)
    ·
      have hW9 := hW
      have hl9 := hl
      subst ez_24
      have eF : (F_L_closes w v mm) = (v.1, v.2.1, v.2.2.1, v.2.2.2.1, v.2.2.2.2.1, (v.2.2.2.2.2.1 + 0), v.2.2.2.2.2.2) := by
        unfold F_L_closes
        rw [if_neg c_23, if_neg c_25]
      exact k_vret (wf := [aI G (h 18) 5 (nF w), aI G a 7 (pF (v.1, v.2.1, v.2.2.1, v.2.2.2.1, v.2.2.2.2.1, (v.2.2.2.2.2.1 + 0), v.2.2.2.2.2.2))]) S hr hlk hK hW9 [0, 1] rfl rfl (congrArg (fun (z : S7) => [aI G (h 18) 5 (nF w), aI G a 7 (pF z)]) eF).symm dL_closes_25
  ·
    refine lv_iconst (v := 1) hx hb dL_closes_11 (by decide) ?_
    refine lv_goto (tgt := 16) hx hb dL_closes_12 (by decide) ?_
    refine lv_iadd hx hb dL_closes_16 ?_
    refine lv_topi (fun z_57 ez_57 => ?_)
    refine k_vst (f' := pF (v.1, v.2.1, v.2.2.1, v.2.2.2.1, v.2.2.2.2.1, z_57, v.2.2.2.2.2.2)) (ws' := [aI G (h 18) 5 (nF w), aI G a 7 (pF (v.1, v.2.1, v.2.2.1, v.2.2.2.1, v.2.2.2.2.1, z_57, v.2.2.2.2.2.2))]) S hK hW 1 rfl (i := 5) (k := 5) vi7_5 ix_5 (up_p5 _ _) rfl dL_closes_17 (fun H locs hW => ?_)
    refine lv_aload_n hx hb dL_closes_18 rfl (lv_at hl 1 rfl) ?_
    refine lv_iconst (v := 0) hx hb dL_closes_19 (by decide) ?_
    refine k_vld S hK hW 1 rfl (i := 0) (k := 0) (x := v.1) vi7_0 ix_0 rfl dL_closes_20 ?_
    refine lv_iconst (v := 1) hx hb dL_closes_21 (by decide) ?_
    refine lv_icmp_le (tgt := 26) hx hb dL_closes_22 (by decide) (fun c_58 => ?_) (fun c_58 => ?_)
    ·
      exact absurd c_58 (by rw [c_23]; decide)
    ·
      have hW9 := hW
      have hl9 := hl
      subst ez_57
      have eF : (F_L_closes w v mm) = (v.1, v.2.1, v.2.2.1, v.2.2.2.1, v.2.2.2.2.1, (v.2.2.2.2.2.1 + 1), v.2.2.2.2.2.2) := by
        unfold F_L_closes
        rw [if_pos c_23]
      exact k_vret (wf := [aI G (h 18) 5 (nF w), aI G a 7 (pF (v.1, v.2.1, v.2.2.1, v.2.2.2.1, v.2.2.2.2.1, (v.2.2.2.2.2.1 + 1), v.2.2.2.2.2.2))]) S hr hlk hK hW9 [0, 1] rfl rfl (congrArg (fun (z : S7) => [aI G (h 18) 5 (nF w), aI G a 7 (pF z)]) eF).symm dL_closes_25
def F_L_takes (sf : (Nat → Int32)) (cf : (Nat → Int32)) (lf : (Nat → Int32)) (rf : (Nat → Int32)) (gf : (Nat → Int32)) (tf : (Nat → Int32)) (mm : Nat) : S7 :=
  ((sf (nI mm).toNatClampNeg), (cf (nI mm).toNatClampNeg), (lf (nI mm).toNatClampNeg), (rf (nI mm).toNatClampNeg), (irm (gf (nI mm).toNatClampNeg) 8), ((gf (nI mm).toNatClampNeg) / 8), (tf (nI mm).toNatClampNeg))
theorem nd_L_takes : yL_takes.cls ≠ "java/lang/invoke/MethodHandle" ∧ yL_takes.cls ≠ "java/lang/invoke/VarHandle" ∧ (parseMethodDescriptor yL_takes.desc).map (fun d => d.parameters.length) = some 8 := by decide +kernel
abbrev rm_L_takes : Room := { frames := 0, cells := 0, slots := 0, locals := 0 }
set_option maxHeartbeats 4000000 in
set_option maxRecDepth 100000 in
theorem c_L_takes (l : Launch) (G : GG) (h : Nat → Nat) (v : S7) (sf : (Nat → Int32)) (cf : (Nat → Int32)) (lf : (Nat → Int32)) (rf : (Nat → Int32)) (gf : (Nat → Int32)) (tf : (Nat → Int32)) (mm : Nat)  (hm : mm < 64) : CV l G yL_takes wsL_takes rm_L_takes [.ref (h 23), .ref (h 24), .ref (h 25), .ref (h 26), .ref (h 27), .ref (h 28), .ref (h 29), .int (nI mm)] [aI G (h 23) 7 (pF v), aI G (h 24) 64 sf, aI G (h 25) 64 cf, aI G (h 26) 64 lf, aI G (h 27) 64 rf, aI G (h 28) 64 gf, aI G (h 29) 64 tf] [aI G (h 23) 7 (pF (F_L_takes sf cf lf rf gf tf mm)), aI G (h 24) 64 sf, aI G (h 25) 64 cf, aI G (h 26) 64 lf, aI G (h 27) 64 rf, aI G (h 28) 64 gf, aI G (h 29) 64 tf] := by
  refine CV_of (own := RL) (by decide +kernel) rfl rfl (Nat.le_of_ble_eq_true rfl) ?_
  intro pP eE sS mM args below meth cC A S hK hr hlk hmn hW ls hl
  have hx := S.1
  have hb := S.2.1
  have hl : lv_has ls 8 [(0, .ref (h 23)), (1, .ref (h 24)), (2, .ref (h 25)), (3, .ref (h 26)), (4, .ref (h 27)), (5, .ref (h 28)), (6, .ref (h 29)), (7, .int (nI mm))] := hl
  have hW : Wd G A sS.heap [aI G (h 23) 7 (pF v), aI G (h 24) 64 sf, aI G (h 25) 64 cf, aI G (h 26) 64 lf, aI G (h 27) 64 rf, aI G (h 28) 64 gf, aI G (h 29) 64 tf] sS.heap [] := hW
  refine lv_aload_n hx hb dL_takes_0 rfl (lv_at hl 0 rfl) ?_
  refine lv_iconst (v := 0) hx hb dL_takes_1 (by decide) ?_
  refine lv_aload_n hx hb dL_takes_2 rfl (lv_at hl 1 rfl) ?_
  refine lv_iload hx hb dL_takes_3 (lv_at hl 7 rfl) ?_
  refine k_iald (n := 64) S hK hW 1 rfl (i := nI mm) (vp_in_nI hm (by omega)) dL_takes_5 ?_
  refine lv_topi (fun z_1 ez_1 => ?_)
  refine k_vst (f' := pF (z_1, v.2.1, v.2.2.1, v.2.2.2.1, v.2.2.2.2.1, v.2.2.2.2.2.1, v.2.2.2.2.2.2)) (ws' := [aI G (h 23) 7 (pF (z_1, v.2.1, v.2.2.1, v.2.2.2.1, v.2.2.2.2.1, v.2.2.2.2.2.1, v.2.2.2.2.2.2)), aI G (h 24) 64 sf, aI G (h 25) 64 cf, aI G (h 26) 64 lf, aI G (h 27) 64 rf, aI G (h 28) 64 gf, aI G (h 29) 64 tf]) S hK hW 0 rfl (i := 0) (k := 0) vi7_0 ix_0 (up_p0 _ _) rfl dL_takes_6 (fun H locs hW => ?_)
  refine lv_aload_n hx hb dL_takes_7 rfl (lv_at hl 0 rfl) ?_
  refine lv_iconst (v := 1) hx hb dL_takes_8 (by decide) ?_
  refine lv_aload_n hx hb dL_takes_9 rfl (lv_at hl 2 rfl) ?_
  refine lv_iload hx hb dL_takes_10 (lv_at hl 7 rfl) ?_
  refine k_iald (n := 64) S hK hW 2 rfl (i := nI mm) (vp_in_nI hm (by omega)) dL_takes_12 ?_
  refine lv_topi (fun z_2 ez_2 => ?_)
  refine k_vst (f' := pF (z_1, z_2, v.2.2.1, v.2.2.2.1, v.2.2.2.2.1, v.2.2.2.2.2.1, v.2.2.2.2.2.2)) (ws' := [aI G (h 23) 7 (pF (z_1, z_2, v.2.2.1, v.2.2.2.1, v.2.2.2.2.1, v.2.2.2.2.2.1, v.2.2.2.2.2.2)), aI G (h 24) 64 sf, aI G (h 25) 64 cf, aI G (h 26) 64 lf, aI G (h 27) 64 rf, aI G (h 28) 64 gf, aI G (h 29) 64 tf]) S hK hW 0 rfl (i := 1) (k := 1) vi7_1 ix_1 (up_p1 _ _) rfl dL_takes_13 (fun H locs hW => ?_)
  refine lv_aload_n hx hb dL_takes_14 rfl (lv_at hl 0 rfl) ?_
  refine lv_iconst (v := 2) hx hb dL_takes_15 (by decide) ?_
  refine lv_aload_n hx hb dL_takes_16 rfl (lv_at hl 3 rfl) ?_
  refine lv_iload hx hb dL_takes_17 (lv_at hl 7 rfl) ?_
  refine k_iald (n := 64) S hK hW 3 rfl (i := nI mm) (vp_in_nI hm (by omega)) dL_takes_19 ?_
  refine lv_topi (fun z_3 ez_3 => ?_)
  refine k_vst (f' := pF (z_1, z_2, z_3, v.2.2.2.1, v.2.2.2.2.1, v.2.2.2.2.2.1, v.2.2.2.2.2.2)) (ws' := [aI G (h 23) 7 (pF (z_1, z_2, z_3, v.2.2.2.1, v.2.2.2.2.1, v.2.2.2.2.2.1, v.2.2.2.2.2.2)), aI G (h 24) 64 sf, aI G (h 25) 64 cf, aI G (h 26) 64 lf, aI G (h 27) 64 rf, aI G (h 28) 64 gf, aI G (h 29) 64 tf]) S hK hW 0 rfl (i := 2) (k := 2) vi7_2 ix_2 (up_p2 _ _) rfl dL_takes_20 (fun H locs hW => ?_)
  refine lv_aload_n hx hb dL_takes_21 rfl (lv_at hl 0 rfl) ?_
  refine lv_iconst (v := 3) hx hb dL_takes_22 (by decide) ?_
  refine lv_aload hx hb dL_takes_23 (lv_at hl 4 rfl) ?_
  refine lv_iload hx hb dL_takes_25 (lv_at hl 7 rfl) ?_
  refine k_iald (n := 64) S hK hW 4 rfl (i := nI mm) (vp_in_nI hm (by omega)) dL_takes_27 ?_
  refine lv_topi (fun z_4 ez_4 => ?_)
  refine k_vst (f' := pF (z_1, z_2, z_3, z_4, v.2.2.2.2.1, v.2.2.2.2.2.1, v.2.2.2.2.2.2)) (ws' := [aI G (h 23) 7 (pF (z_1, z_2, z_3, z_4, v.2.2.2.2.1, v.2.2.2.2.2.1, v.2.2.2.2.2.2)), aI G (h 24) 64 sf, aI G (h 25) 64 cf, aI G (h 26) 64 lf, aI G (h 27) 64 rf, aI G (h 28) 64 gf, aI G (h 29) 64 tf]) S hK hW 0 rfl (i := 3) (k := 3) vi7_3 ix_3 (up_p3 _ _) rfl dL_takes_28 (fun H locs hW => ?_)
  refine lv_aload_n hx hb dL_takes_29 rfl (lv_at hl 0 rfl) ?_
  refine lv_iconst (v := 4) hx hb dL_takes_30 (by decide) ?_
  refine lv_aload hx hb dL_takes_31 (lv_at hl 5 rfl) ?_
  refine lv_iload hx hb dL_takes_33 (lv_at hl 7 rfl) ?_
  refine k_iald (n := 64) S hK hW 5 rfl (i := nI mm) (vp_in_nI hm (by omega)) dL_takes_35 ?_
  refine lv_bipush (v := 8) hx hb dL_takes_36 (by decide) ?_
  refine k_irem hx hb dL_takes_38 (by decide) ?_
  refine lv_topi (fun z_5 ez_5 => ?_)
  refine k_vst (f' := pF (z_1, z_2, z_3, z_4, z_5, v.2.2.2.2.2.1, v.2.2.2.2.2.2)) (ws' := [aI G (h 23) 7 (pF (z_1, z_2, z_3, z_4, z_5, v.2.2.2.2.2.1, v.2.2.2.2.2.2)), aI G (h 24) 64 sf, aI G (h 25) 64 cf, aI G (h 26) 64 lf, aI G (h 27) 64 rf, aI G (h 28) 64 gf, aI G (h 29) 64 tf]) S hK hW 0 rfl (i := 4) (k := 4) vi7_4 ix_4 (up_p4 _ _) rfl dL_takes_39 (fun H locs hW => ?_)
  refine lv_aload_n hx hb dL_takes_40 rfl (lv_at hl 0 rfl) ?_
  refine lv_iconst (v := 5) hx hb dL_takes_41 (by decide) ?_
  refine lv_aload hx hb dL_takes_42 (lv_at hl 5 rfl) ?_
  refine lv_iload hx hb dL_takes_44 (lv_at hl 7 rfl) ?_
  refine k_iald (n := 64) S hK hW 5 rfl (i := nI mm) (vp_in_nI hm (by omega)) dL_takes_46 ?_
  refine lv_bipush (v := 8) hx hb dL_takes_47 (by decide) ?_
  refine lv_idiv hx hb dL_takes_49 (by decide) ?_
  refine lv_topi (fun z_6 ez_6 => ?_)
  refine k_vst (f' := pF (z_1, z_2, z_3, z_4, z_5, z_6, v.2.2.2.2.2.2)) (ws' := [aI G (h 23) 7 (pF (z_1, z_2, z_3, z_4, z_5, z_6, v.2.2.2.2.2.2)), aI G (h 24) 64 sf, aI G (h 25) 64 cf, aI G (h 26) 64 lf, aI G (h 27) 64 rf, aI G (h 28) 64 gf, aI G (h 29) 64 tf]) S hK hW 0 rfl (i := 5) (k := 5) vi7_5 ix_5 (up_p5 _ _) rfl dL_takes_50 (fun H locs hW => ?_)
  refine lv_aload_n hx hb dL_takes_51 rfl (lv_at hl 0 rfl) ?_
  refine lv_bipush (v := 6) hx hb dL_takes_52 (by decide) ?_
  refine lv_aload hx hb dL_takes_54 (lv_at hl 6 rfl) ?_
  refine lv_iload hx hb dL_takes_56 (lv_at hl 7 rfl) ?_
  refine k_iald (n := 64) S hK hW 6 rfl (i := nI mm) (vp_in_nI hm (by omega)) dL_takes_58 ?_
  refine lv_topi (fun z_7 ez_7 => ?_)
  refine k_vst (f' := pF (z_1, z_2, z_3, z_4, z_5, z_6, z_7)) (ws' := [aI G (h 23) 7 (pF (z_1, z_2, z_3, z_4, z_5, z_6, z_7)), aI G (h 24) 64 sf, aI G (h 25) 64 cf, aI G (h 26) 64 lf, aI G (h 27) 64 rf, aI G (h 28) 64 gf, aI G (h 29) 64 tf]) S hK hW 0 rfl (i := 6) (k := 6) vi7_6 ix_6 (up_p6 _ _) rfl dL_takes_59 (fun H locs hW => ?_)
  have hW9 := hW
  have hl9 := hl
  subst ez_1
  subst ez_2
  subst ez_3
  subst ez_4
  subst ez_5
  subst ez_6
  subst ez_7
  have eF : (F_L_takes sf cf lf rf gf tf mm) = ((sf (nI mm).toNatClampNeg), (cf (nI mm).toNatClampNeg), (lf (nI mm).toNatClampNeg), (rf (nI mm).toNatClampNeg), (irm (gf (nI mm).toNatClampNeg) 8), ((gf (nI mm).toNatClampNeg) / 8), (tf (nI mm).toNatClampNeg)) := by
    rfl
  exact k_vret (wf := [aI G (h 23) 7 (pF ((sf (nI mm).toNatClampNeg), (cf (nI mm).toNatClampNeg), (lf (nI mm).toNatClampNeg), (rf (nI mm).toNatClampNeg), (irm (gf (nI mm).toNatClampNeg) 8), ((gf (nI mm).toNatClampNeg) / 8), (tf (nI mm).toNatClampNeg))), aI G (h 24) 64 sf, aI G (h 25) 64 cf, aI G (h 26) 64 lf, aI G (h 27) 64 rf, aI G (h 28) 64 gf, aI G (h 29) 64 tf]) S hr hlk hK hW9 [0, 1, 2, 3, 4, 5, 6] rfl rfl (congrArg (fun (z : S7) => [aI G (h 23) 7 (pF z), aI G (h 24) 64 sf, aI G (h 25) 64 cf, aI G (h 26) 64 lf, aI G (h 27) 64 rf, aI G (h 28) 64 gf, aI G (h 29) 64 tf]) eF).symm dL_takes_60
def F_L_keeps (v : S7) (sf : (Nat → Int32)) (cf : (Nat → Int32)) (lf : (Nat → Int32)) (rf : (Nat → Int32)) (gf : (Nat → Int32)) (tf : (Nat → Int32)) (mm : Nat) : (Nat → Int32) × (Nat → Int32) × (Nat → Int32) × (Nat → Int32) × (Nat → Int32) × (Nat → Int32) :=
  ((upd sf (nI mm).toNatClampNeg v.1), (upd cf (nI mm).toNatClampNeg v.2.1), (upd lf (nI mm).toNatClampNeg v.2.2.1), (upd rf (nI mm).toNatClampNeg v.2.2.2.1), (upd gf (nI mm).toNatClampNeg (v.2.2.2.2.1 + (8 * v.2.2.2.2.2.1))), (upd tf (nI mm).toNatClampNeg v.2.2.2.2.2.2))
theorem nd_L_keeps : yL_keeps.cls ≠ "java/lang/invoke/MethodHandle" ∧ yL_keeps.cls ≠ "java/lang/invoke/VarHandle" ∧ (parseMethodDescriptor yL_keeps.desc).map (fun d => d.parameters.length) = some 8 := by decide +kernel
abbrev rm_L_keeps : Room := { frames := 0, cells := 0, slots := 0, locals := 0 }
set_option maxHeartbeats 4000000 in
set_option maxRecDepth 100000 in
theorem c_L_keeps (l : Launch) (G : GG) (h : Nat → Nat) (v : S7) (sf : (Nat → Int32)) (cf : (Nat → Int32)) (lf : (Nat → Int32)) (rf : (Nat → Int32)) (gf : (Nat → Int32)) (tf : (Nat → Int32)) (mm : Nat)  (hm : mm < 64) : CV l G yL_keeps wsL_keeps rm_L_keeps [.ref (h 23), .ref (h 24), .ref (h 25), .ref (h 26), .ref (h 27), .ref (h 28), .ref (h 29), .int (nI mm)] [aI G (h 23) 7 (pF v), aI G (h 24) 64 sf, aI G (h 25) 64 cf, aI G (h 26) 64 lf, aI G (h 27) 64 rf, aI G (h 28) 64 gf, aI G (h 29) 64 tf] [aI G (h 23) 7 (pF v), aI G (h 24) 64 ((F_L_keeps v sf cf lf rf gf tf mm).1), aI G (h 25) 64 ((F_L_keeps v sf cf lf rf gf tf mm).2.1), aI G (h 26) 64 ((F_L_keeps v sf cf lf rf gf tf mm).2.2.1), aI G (h 27) 64 ((F_L_keeps v sf cf lf rf gf tf mm).2.2.2.1), aI G (h 28) 64 ((F_L_keeps v sf cf lf rf gf tf mm).2.2.2.2.1), aI G (h 29) 64 ((F_L_keeps v sf cf lf rf gf tf mm).2.2.2.2.2)] := by
  refine CV_of (own := RL) (by decide +kernel) rfl rfl (Nat.le_of_ble_eq_true rfl) ?_
  intro pP eE sS mM args below meth cC A S hK hr hlk hmn hW ls hl
  have hx := S.1
  have hb := S.2.1
  have hl : lv_has ls 8 [(0, .ref (h 23)), (1, .ref (h 24)), (2, .ref (h 25)), (3, .ref (h 26)), (4, .ref (h 27)), (5, .ref (h 28)), (6, .ref (h 29)), (7, .int (nI mm))] := hl
  have hW : Wd G A sS.heap [aI G (h 23) 7 (pF v), aI G (h 24) 64 sf, aI G (h 25) 64 cf, aI G (h 26) 64 lf, aI G (h 27) 64 rf, aI G (h 28) 64 gf, aI G (h 29) 64 tf] sS.heap [] := hW
  refine lv_aload_n hx hb dL_keeps_0 rfl (lv_at hl 1 rfl) ?_
  refine lv_iload hx hb dL_keeps_1 (lv_at hl 7 rfl) ?_
  refine lv_aload_n hx hb dL_keeps_3 rfl (lv_at hl 0 rfl) ?_
  refine lv_iconst (v := 0) hx hb dL_keeps_4 (by decide) ?_
  refine k_vld S hK hW 0 rfl (i := 0) (k := 0) (x := v.1) vi7_0 ix_0 rfl dL_keeps_5 ?_
  refine k_iast (n := 64) (ws' := [aI G (h 23) 7 (pF v), aI G (h 24) 64 (upd sf (nI mm).toNatClampNeg v.1), aI G (h 25) 64 cf, aI G (h 26) 64 lf, aI G (h 27) 64 rf, aI G (h 28) 64 gf, aI G (h 29) 64 tf]) S hK hW 1 rfl (i := nI mm) (vp_in_nI hm (by omega)) rfl dL_keeps_6 (fun H locs hW => ?_)
  refine lv_aload_n hx hb dL_keeps_7 rfl (lv_at hl 2 rfl) ?_
  refine lv_iload hx hb dL_keeps_8 (lv_at hl 7 rfl) ?_
  refine lv_aload_n hx hb dL_keeps_10 rfl (lv_at hl 0 rfl) ?_
  refine lv_iconst (v := 1) hx hb dL_keeps_11 (by decide) ?_
  refine k_vld S hK hW 0 rfl (i := 1) (k := 1) (x := v.2.1) vi7_1 ix_1 rfl dL_keeps_12 ?_
  refine k_iast (n := 64) (ws' := [aI G (h 23) 7 (pF v), aI G (h 24) 64 (upd sf (nI mm).toNatClampNeg v.1), aI G (h 25) 64 (upd cf (nI mm).toNatClampNeg v.2.1), aI G (h 26) 64 lf, aI G (h 27) 64 rf, aI G (h 28) 64 gf, aI G (h 29) 64 tf]) S hK hW 2 rfl (i := nI mm) (vp_in_nI hm (by omega)) rfl dL_keeps_13 (fun H locs hW => ?_)
  refine lv_aload_n hx hb dL_keeps_14 rfl (lv_at hl 3 rfl) ?_
  refine lv_iload hx hb dL_keeps_15 (lv_at hl 7 rfl) ?_
  refine lv_aload_n hx hb dL_keeps_17 rfl (lv_at hl 0 rfl) ?_
  refine lv_iconst (v := 2) hx hb dL_keeps_18 (by decide) ?_
  refine k_vld S hK hW 0 rfl (i := 2) (k := 2) (x := v.2.2.1) vi7_2 ix_2 rfl dL_keeps_19 ?_
  refine k_iast (n := 64) (ws' := [aI G (h 23) 7 (pF v), aI G (h 24) 64 (upd sf (nI mm).toNatClampNeg v.1), aI G (h 25) 64 (upd cf (nI mm).toNatClampNeg v.2.1), aI G (h 26) 64 (upd lf (nI mm).toNatClampNeg v.2.2.1), aI G (h 27) 64 rf, aI G (h 28) 64 gf, aI G (h 29) 64 tf]) S hK hW 3 rfl (i := nI mm) (vp_in_nI hm (by omega)) rfl dL_keeps_20 (fun H locs hW => ?_)
  refine lv_aload hx hb dL_keeps_21 (lv_at hl 4 rfl) ?_
  refine lv_iload hx hb dL_keeps_23 (lv_at hl 7 rfl) ?_
  refine lv_aload_n hx hb dL_keeps_25 rfl (lv_at hl 0 rfl) ?_
  refine lv_iconst (v := 3) hx hb dL_keeps_26 (by decide) ?_
  refine k_vld S hK hW 0 rfl (i := 3) (k := 3) (x := v.2.2.2.1) vi7_3 ix_3 rfl dL_keeps_27 ?_
  refine k_iast (n := 64) (ws' := [aI G (h 23) 7 (pF v), aI G (h 24) 64 (upd sf (nI mm).toNatClampNeg v.1), aI G (h 25) 64 (upd cf (nI mm).toNatClampNeg v.2.1), aI G (h 26) 64 (upd lf (nI mm).toNatClampNeg v.2.2.1), aI G (h 27) 64 (upd rf (nI mm).toNatClampNeg v.2.2.2.1), aI G (h 28) 64 gf, aI G (h 29) 64 tf]) S hK hW 4 rfl (i := nI mm) (vp_in_nI hm (by omega)) rfl dL_keeps_28 (fun H locs hW => ?_)
  refine lv_aload hx hb dL_keeps_29 (lv_at hl 5 rfl) ?_
  refine lv_iload hx hb dL_keeps_31 (lv_at hl 7 rfl) ?_
  refine lv_aload_n hx hb dL_keeps_33 rfl (lv_at hl 0 rfl) ?_
  refine lv_iconst (v := 4) hx hb dL_keeps_34 (by decide) ?_
  refine k_vld S hK hW 0 rfl (i := 4) (k := 4) (x := v.2.2.2.2.1) vi7_4 ix_4 rfl dL_keeps_35 ?_
  refine lv_bipush (v := 8) hx hb dL_keeps_36 (by decide) ?_
  refine lv_aload_n hx hb dL_keeps_38 rfl (lv_at hl 0 rfl) ?_
  refine lv_iconst (v := 5) hx hb dL_keeps_39 (by decide) ?_
  refine k_vld S hK hW 0 rfl (i := 5) (k := 5) (x := v.2.2.2.2.2.1) vi7_5 ix_5 rfl dL_keeps_40 ?_
  refine lv_imul hx hb dL_keeps_41 ?_
  refine lv_iadd hx hb dL_keeps_42 ?_
  refine k_iast (n := 64) (ws' := [aI G (h 23) 7 (pF v), aI G (h 24) 64 (upd sf (nI mm).toNatClampNeg v.1), aI G (h 25) 64 (upd cf (nI mm).toNatClampNeg v.2.1), aI G (h 26) 64 (upd lf (nI mm).toNatClampNeg v.2.2.1), aI G (h 27) 64 (upd rf (nI mm).toNatClampNeg v.2.2.2.1), aI G (h 28) 64 (upd gf (nI mm).toNatClampNeg (v.2.2.2.2.1 + (8 * v.2.2.2.2.2.1))), aI G (h 29) 64 tf]) S hK hW 5 rfl (i := nI mm) (vp_in_nI hm (by omega)) rfl dL_keeps_43 (fun H locs hW => ?_)
  refine lv_aload hx hb dL_keeps_44 (lv_at hl 6 rfl) ?_
  refine lv_iload hx hb dL_keeps_46 (lv_at hl 7 rfl) ?_
  refine lv_aload_n hx hb dL_keeps_48 rfl (lv_at hl 0 rfl) ?_
  refine lv_bipush (v := 6) hx hb dL_keeps_49 (by decide) ?_
  refine k_vld S hK hW 0 rfl (i := 6) (k := 6) (x := v.2.2.2.2.2.2) vi7_6 ix_6 rfl dL_keeps_51 ?_
  refine k_iast (n := 64) (ws' := [aI G (h 23) 7 (pF v), aI G (h 24) 64 (upd sf (nI mm).toNatClampNeg v.1), aI G (h 25) 64 (upd cf (nI mm).toNatClampNeg v.2.1), aI G (h 26) 64 (upd lf (nI mm).toNatClampNeg v.2.2.1), aI G (h 27) 64 (upd rf (nI mm).toNatClampNeg v.2.2.2.1), aI G (h 28) 64 (upd gf (nI mm).toNatClampNeg (v.2.2.2.2.1 + (8 * v.2.2.2.2.2.1))), aI G (h 29) 64 (upd tf (nI mm).toNatClampNeg v.2.2.2.2.2.2)]) S hK hW 6 rfl (i := nI mm) (vp_in_nI hm (by omega)) rfl dL_keeps_52 (fun H locs hW => ?_)
  have eF : (F_L_keeps v sf cf lf rf gf tf mm) = ((upd sf (nI mm).toNatClampNeg v.1), (upd cf (nI mm).toNatClampNeg v.2.1), (upd lf (nI mm).toNatClampNeg v.2.2.1), (upd rf (nI mm).toNatClampNeg v.2.2.2.1), (upd gf (nI mm).toNatClampNeg (v.2.2.2.2.1 + (8 * v.2.2.2.2.2.1))), (upd tf (nI mm).toNatClampNeg v.2.2.2.2.2.2)) := by
    rfl
  exact k_vret (wf := [aI G (h 23) 7 (pF v), aI G (h 24) 64 (upd sf (nI mm).toNatClampNeg v.1), aI G (h 25) 64 (upd cf (nI mm).toNatClampNeg v.2.1), aI G (h 26) 64 (upd lf (nI mm).toNatClampNeg v.2.2.1), aI G (h 27) 64 (upd rf (nI mm).toNatClampNeg v.2.2.2.1), aI G (h 28) 64 (upd gf (nI mm).toNatClampNeg (v.2.2.2.2.1 + (8 * v.2.2.2.2.2.1))), aI G (h 29) 64 (upd tf (nI mm).toNatClampNeg v.2.2.2.2.2.2)]) S hr hlk hK hW [0, 1, 2, 3, 4, 5, 6] rfl rfl (congrArg (fun (z : (Nat → Int32) × (Nat → Int32) × (Nat → Int32) × (Nat → Int32) × (Nat → Int32) × (Nat → Int32)) => [aI G (h 23) 7 (pF v), aI G (h 24) 64 z.1, aI G (h 25) 64 z.2.1, aI G (h 26) 64 z.2.2.1, aI G (h 27) 64 z.2.2.2.1, aI G (h 28) 64 z.2.2.2.2.1, aI G (h 29) 64 z.2.2.2.2.2]) eF).symm dL_keeps_53
