theorem lt_of_nle {a b : Nat} (ha : a < 2 ^ 31) (h : ¬ nI b ≤ nI a) : a < b := by
  rcases Nat.lt_or_ge a b with q | q
  · exact q
  · exact absurd (nI_le q ha) h
def Lp_X5_needed (ka : Int32) (kb : Int32) (kc : Int32) (mo : (Nat → Int32)) (ki : (Nat → Int32)) (am : (Nat → Int32)) (sk : (Nat → Bool)) (x : Int32) (np : Nat) (n : Nat) : Nat → Nat → Nat → Nat → S7 → (Nat → Bool) → Int32 × S7 × Int32 × (Nat → Bool)
  | 0, i, lo9, hi9, v9, dn9 => (nI hi9, v9, 0, dn9)
  | d + 1, i, lo9, hi9, v9, dn9 => if nI hi9 ≤ nI lo9 then (nI hi9, v9, 0, dn9)
  else (if (F_X5_lapse ka kb kc mo ki am sk dn9 (nI ((lo9 + hi9) / 2)) np n x.toNatClampNeg).1 = (-1) then Lp_X5_needed ka kb kc mo ki am sk x np n d (i + 1) lo9 ((lo9 + hi9) / 2) ((F_X5_lapse ka kb kc mo ki am sk dn9 (nI ((lo9 + hi9) / 2)) np n x.toNatClampNeg).2.1) ((F_X5_lapse ka kb kc mo ki am sk dn9 (nI ((lo9 + hi9) / 2)) np n x.toNatClampNeg).2.2)
    else Lp_X5_needed ka kb kc mo ki am sk x np n d (i + 1) (((lo9 + hi9) / 2) + 1) hi9 ((F_X5_lapse ka kb kc mo ki am sk dn9 (nI ((lo9 + hi9) / 2)) np n x.toNatClampNeg).2.1) ((F_X5_lapse ka kb kc mo ki am sk dn9 (nI ((lo9 + hi9) / 2)) np n x.toNatClampNeg).2.2))
def F_X5_needed (ka : Int32) (kb : Int32) (kc : Int32) (v : S7) (mo : (Nat → Int32)) (ki : (Nat → Int32)) (am : (Nat → Int32)) (sk : (Nat → Bool)) (dn : (Nat → Bool)) (x : Int32) (np : Nat) (n : Nat) : Int32 × S7 × Int32 × (Nat → Bool) :=
  if bI (F_X5_in x 1 36) = 0 then (0, v, 1, dn)
  else (if 1 < ((F_X5_goNow ka kb kc mo ki am sk dn np n).1).1 then ((-1), ((F_X5_goNow ka kb kc mo ki am sk dn np n).1), 0, (F_X5_goNow ka kb kc mo ki am sk dn np n).2)
    else (if (F_X5_lapse ka kb kc mo ki am sk ((F_X5_goNow ka kb kc mo ki am sk dn np n).2) 2000000 np n x.toNatClampNeg).1 = (-1) then Lp_X5_needed ka kb kc mo ki am sk x np n 21 0 0 2000000 ((F_X5_lapse ka kb kc mo ki am sk ((F_X5_goNow ka kb kc mo ki am sk dn np n).2) 2000000 np n x.toNatClampNeg).2.1) ((F_X5_lapse ka kb kc mo ki am sk ((F_X5_goNow ka kb kc mo ki am sk dn np n).2) 2000000 np n x.toNatClampNeg).2.2)
      else ((-1), ((F_X5_lapse ka kb kc mo ki am sk ((F_X5_goNow ka kb kc mo ki am sk dn np n).2) 2000000 np n x.toNatClampNeg).2.1), 0, (F_X5_lapse ka kb kc mo ki am sk ((F_X5_goNow ka kb kc mo ki am sk dn np n).2) 2000000 np n x.toNatClampNeg).2.2)))
set_option maxRecDepth 100000 in
theorem k_X5_needed_f34 : Cond.fieldLink RX5 34 "FlexiblePolicyModel" "thrown" "I" ∈ wsX5_needed := by decide +kernel
set_option maxRecDepth 100000 in
theorem k_X5_needed_in5 : ∀ w ∈ u_ws RX5 TX5 18, w ∈ wsX5_needed := by decide +kernel
set_option maxRecDepth 100000 in
theorem k_X5_needed_f61 : Cond.fieldLink RX5 61 "FlexiblePolicyModel" "state" "I" ∈ wsX5_needed := by decide +kernel
set_option maxRecDepth 100000 in
theorem k_X5_needed_c133 : Cond.constant RX5 133 (2000000) ∈ wsX5_needed := by decide +kernel
theorem nd_X5_needed : yX5_needed.cls = RX5 ∧ yX5_needed.cls ≠ "java/lang/invoke/MethodHandle" ∧ yX5_needed.cls ≠ "java/lang/invoke/VarHandle" ∧ (parseMethodDescriptor yX5_needed.desc).map (fun d => d.parameters.length) = some 1 := by decide +kernel
abbrev rm_X5_needed : Room := { frames := 7, cells := 0, slots := 0, locals := 159 }
set_option maxHeartbeats 4000000 in
set_option maxRecDepth 100000 in
theorem c_X5_needed (l : Launch) (G : GG) (h : Nat → Nat) (ka : Int32) (kb : Int32) (kc : Int32) (v : S7) (t : Int32) (mo : (Nat → Int32)) (ki : (Nat → Int32)) (am : (Nat → Int32)) (sk : (Nat → Bool)) (dn : (Nat → Bool)) (x : Int32) (np : Nat) (n : Nat) (hn : n ≤ 60) (hp : np ≤ 120) : CI l G yX5_needed wsX5_needed rm_X5_needed [.ref (h 18), .int x] [cM h (ka, kb, kc, (nI np), (nI n)) v t, aI G (h 19) 60 mo, aI G (h 20) 60 ki, aI G (h 21) 60 am, aZ G (h 22) 60 sk, aZ G (h 23) 60 dn] ((F_X5_needed ka kb kc v mo ki am sk dn x np n).1) [cM h (ka, kb, kc, (nI np), (nI n)) ((F_X5_needed ka kb kc v mo ki am sk dn x np n).2.1) ((F_X5_needed ka kb kc v mo ki am sk dn x np n).2.2.1), aI G (h 19) 60 mo, aI G (h 20) 60 ki, aI G (h 21) 60 am, aZ G (h 22) 60 sk, aZ G (h 23) 60 ((F_X5_needed ka kb kc v mo ki am sk dn x np n).2.2.2)] := by
  refine CI_of (own := RX5) (by decide +kernel) rfl rfl (Nat.le_of_ble_eq_true rfl) ?_
  intro pP eE sS mM args below meth cC A S hK hr hlk hmn hW ls hl
  have hx := S.1
  have hb := S.2.1
  have hl : lv_has ls 5 [(0, .ref (h 18)), (1, .int x)] := hl
  have hW : Wd G A sS.heap [cM h (ka, kb, kc, (nI np), (nI n)) v t, aI G (h 19) 60 mo, aI G (h 20) 60 ki, aI G (h 21) 60 am, aZ G (h 22) 60 sk, aZ G (h 23) 60 dn] sS.heap [] := hW
  have key : ∀ (d i : Nat) (lo9 : Nat) (hi9 : Nat) (v9 : S7) (dn9 : (Nat → Bool)), x = nI x.toNatClampNeg → x.toNatClampNeg ≤ 36 → lo9 ≤ hi9 ∧ hi9 ≤ 2000000 ∧ hi9 < lo9 + 2 ^ d → Lp_X5_needed ka kb kc mo ki am sk x np n d i lo9 hi9 v9 dn9 = (F_X5_needed ka kb kc v mo ki am sk dn x np n) → ∀ (H : Heap) (locs : List Loc) (ls : Array Slot), Wd G A sS.heap [cM h (ka, kb, kc, (nI np), (nI n)) v9 0, aI G (h 19) 60 mo, aI G (h 20) 60 ki, aI G (h 21) 60 am, aZ G (h 22) 60 sk, aZ G (h 23) 60 dn9] H locs → lv_has ls 5 [(2, .int (nI lo9)), (3, .int (nI hi9)), (0, .ref (h 18)), (1, .int x)] → W pP l eE rm_X5_needed sS mM args below meth cC H locs 0 0 (MQ below (QI G A ((F_X5_needed ka kb kc v mo ki am sk dn x np n).1) [cM h (ka, kb, kc, (nI np), (nI n)) ((F_X5_needed ka kb kc v mo ki am sk dn x np n).2.1) ((F_X5_needed ka kb kc v mo ki am sk dn x np n).2.2.1), aI G (h 19) 60 mo, aI G (h 20) 60 ki, aI G (h 21) 60 am, aZ G (h 22) 60 sk, aZ G (h 23) 60 ((F_X5_needed ka kb kc v mo ki am sk dn x np n).2.2.2)]) args sS 0 0 A) (F0 mM 58 ls []) := by
    intro d
    induction d with
    | zero =>
      intro i lo9 hi9 v9 dn9 hx9 hw9 hi hF H locs ls hW hl
      have hc : nI hi9 ≤ nI lo9 := nI_le (by omega) (by omega)
      refine lv_iload_n hx hb dX5_needed_58 rfl (lv_at hl 0 rfl) ?_
      refine lv_iload_n hx hb dX5_needed_59 rfl (lv_at hl 1 rfl) ?_
      refine lv_icmp_ge (tgt := 95) hx hb dX5_needed_60 (by decide) (fun c_1 => ?_) (fun c_1 => ?_)
      ·
        refine lv_iload_n hx hb dX5_needed_95 rfl (lv_at hl 1 rfl) ?_
        have eF : (F_X5_needed ka kb kc v mo ki am sk dn x np n) = (nI hi9, v9, 0, dn9) := hF.symm.trans (by
          rw [Lp_X5_needed])
        exact k_iret (wf := [cM h (ka, kb, kc, (nI np), (nI n)) v9 0, aI G (h 19) 60 mo, aI G (h 20) 60 ki, aI G (h 21) 60 am, aZ G (h 22) 60 sk, aZ G (h 23) 60 dn9]) S hr hlk hK hW [0, 1, 2, 3, 4, 5] rfl rfl (congrArg (fun (z : Int32 × S7 × Int32 × (Nat → Bool)) => [cM h (ka, kb, kc, (nI np), (nI n)) z.2.1 z.2.2.1, aI G (h 19) 60 mo, aI G (h 20) 60 ki, aI G (h 21) 60 am, aZ G (h 22) 60 sk, aZ G (h 23) 60 z.2.2.2]) eF).symm (congrArg (fun (z : Int32 × S7 × Int32 × (Nat → Bool)) => z.1) eF).symm dX5_needed_96
      ·
        exact absurd hc c_1
    | succ d ih =>
      intro i lo9 hi9 v9 dn9 hx9 hw9 hi hF H locs ls hW hl
      have hp2 : 2 ^ (d + 1) = 2 * 2 ^ d := by rw [Nat.pow_succ, Nat.mul_comm]
      refine lv_iload_n hx hb dX5_needed_58 rfl (lv_at hl 0 rfl) ?_
      refine lv_iload_n hx hb dX5_needed_59 rfl (lv_at hl 1 rfl) ?_
      refine lv_icmp_ge (tgt := 95) hx hb dX5_needed_60 (by decide) (fun c_2 => ?_) (fun c_2 => ?_)
      ·
        refine lv_iload_n hx hb dX5_needed_95 rfl (lv_at hl 1 rfl) ?_
        have eF : (F_X5_needed ka kb kc v mo ki am sk dn x np n) = (nI hi9, v9, 0, dn9) := hF.symm.trans (by
          rw [Lp_X5_needed, if_pos c_2])
        exact k_iret (wf := [cM h (ka, kb, kc, (nI np), (nI n)) v9 0, aI G (h 19) 60 mo, aI G (h 20) 60 ki, aI G (h 21) 60 am, aZ G (h 22) 60 sk, aZ G (h 23) 60 dn9]) S hr hlk hK hW [0, 1, 2, 3, 4, 5] rfl rfl (congrArg (fun (z : Int32 × S7 × Int32 × (Nat → Bool)) => [cM h (ka, kb, kc, (nI np), (nI n)) z.2.1 z.2.2.1, aI G (h 19) 60 mo, aI G (h 20) 60 ki, aI G (h 21) 60 am, aZ G (h 22) 60 sk, aZ G (h 23) 60 z.2.2.2]) eF).symm (congrArg (fun (z : Int32 × S7 × Int32 × (Nat → Bool)) => z.1) eF).symm dX5_needed_96
      ·
        refine lv_iload_n hx hb dX5_needed_63 rfl (lv_at hl 0 rfl) ?_
        refine lv_iload_n hx hb dX5_needed_64 rfl (lv_at hl 1 rfl) ?_
        refine lv_iadd hx hb dX5_needed_65 ?_
        refine lv_iconst (v := 2) hx hb dX5_needed_66 (by decide) ?_
        refine lv_idiv hx hb dX5_needed_67 (by decide) ?_
        have hlt : lo9 < hi9 := lt_of_nle (by omega) c_2
        rw [nI_mid (by omega) (by omega)]
        refine lv_istore (lv' := [(4, .int (nI ((lo9 + hi9) / 2))), (2, .int (nI lo9)), (3, .int (nI hi9)), (0, .ref (h 18)), (1, .int x)]) hx hb dX5_needed_68 hl (by decide) rfl (fun ls hl => ?_)
        refine lv_aload_n hx hb dX5_needed_70 rfl (lv_at hl 3 rfl) ?_
        refine lv_iload_n hx hb dX5_needed_71 rfl (lv_at hl 4 rfl) ?_
        refine lv_iload hx hb dX5_needed_72 (lv_at hl 0 rfl) ?_
        refine W.eq (g2 := F0 mM 74 ls [.int (nI ((lo9 + hi9) / 2)), .int (nI x.toNatClampNeg), .ref (h 18)]) (by rw [← hx9]) ?_
        refine k_callVi (C := RX5) (As := [.int (nI x.toNatClampNeg), .int (nI ((lo9 + hi9) / 2))]) (rest := []) (wr := []) (c_X5_lapse l G h ka kb kc v9 0 mo ki am sk dn9 (nI ((lo9 + hi9) / 2)) np n x.toNatClampNeg (by omega) (by omega) (by omega)) S hK hW gX5_needed_X5_lapse rfl ⟨rfl, rfl⟩ nd_X5_lapse ⟨rfl, rfl⟩ (qb := 0) (ci := 5) rfl rfl [0, 1, 2, 3, 4, 5] [] rfl rfl rfl rfl (by decide) rfl hl.1 rfl dX5_needed_74 ⟨Nat.zero_le _, Nat.zero_le _⟩ (fun H locs hW => ?_)
        have hW : Wd G A sS.heap [cM h (ka, kb, kc, (nI np), (nI n)) ((F_X5_lapse ka kb kc mo ki am sk dn9 (nI ((lo9 + hi9) / 2)) np n x.toNatClampNeg).2.1) 0, aI G (h 19) 60 mo, aI G (h 20) 60 ki, aI G (h 21) 60 am, aZ G (h 22) 60 sk, aZ G (h 23) 60 ((F_X5_lapse ka kb kc mo ki am sk dn9 (nI ((lo9 + hi9) / 2)) np n x.toNatClampNeg).2.2)] H locs := hW
        refine lv_iconst (v := (-1)) hx hb dX5_needed_77 (by decide) ?_
        refine lv_icmp_ne (tgt := 87) hx hb dX5_needed_78 (by decide) (fun c_3 => ?_) (fun c_3 => ?_)
        ·
          refine lv_iload hx hb dX5_needed_87 (lv_at hl 0 rfl) ?_
          refine lv_iconst (v := 1) hx hb dX5_needed_89 (by decide) ?_
          refine lv_iadd hx hb dX5_needed_90 ?_
          refine lv_istore_n (lv' := [(2, .int (nI ((lo9 + hi9) / 2) + 1)), (4, .int (nI ((lo9 + hi9) / 2))), (3, .int (nI hi9)), (0, .ref (h 18)), (1, .int x)]) hx hb dX5_needed_91 rfl hl (by decide) rfl (fun ls hl => ?_)
          refine lv_goto (tgt := 58) hx hb dX5_needed_92 (by decide) ?_
          have eS : Lp_X5_needed ka kb kc mo ki am sk x np n (d + 1) i lo9 hi9 v9 dn9 = Lp_X5_needed ka kb kc mo ki am sk x np n d (i + 1) (((lo9 + hi9) / 2) + 1) hi9 ((F_X5_lapse ka kb kc mo ki am sk dn9 (nI ((lo9 + hi9) / 2)) np n x.toNatClampNeg).2.1) ((F_X5_lapse ka kb kc mo ki am sk dn9 (nI ((lo9 + hi9) / 2)) np n x.toNatClampNeg).2.2) := by
            rw [Lp_X5_needed, if_neg c_2, if_neg c_3]
          have hl : lv_has ls 5 [(2, .int (nI (((lo9 + hi9) / 2) + 1))), (3, .int (nI hi9)), (0, .ref (h 18)), (1, .int x)] := by
            first | exact lv_sub hl [0, 2, 3, 4] rfl | (rw [← nI_1]; exact lv_sub hl [0, 2, 3, 4] rfl)
          exact ih (i + 1) (((lo9 + hi9) / 2) + 1) hi9 ((F_X5_lapse ka kb kc mo ki am sk dn9 (nI ((lo9 + hi9) / 2)) np n x.toNatClampNeg).2.1) ((F_X5_lapse ka kb kc mo ki am sk dn9 (nI ((lo9 + hi9) / 2)) np n x.toNatClampNeg).2.2) hx9 hw9 ⟨by omega, by omega, by omega⟩ (eS.symm.trans hF) _ _ _ (hW.re [0, 1, 2, 3, 4, 5] rfl rfl) hl
        ·
          refine lv_iload hx hb dX5_needed_81 (lv_at hl 0 rfl) ?_
          refine lv_istore_n (lv' := [(3, .int (nI ((lo9 + hi9) / 2))), (4, .int (nI ((lo9 + hi9) / 2))), (2, .int (nI lo9)), (0, .ref (h 18)), (1, .int x)]) hx hb dX5_needed_83 rfl hl (by decide) rfl (fun ls hl => ?_)
          refine lv_goto (tgt := 92) hx hb dX5_needed_84 (by decide) ?_
          refine lv_goto (tgt := 58) hx hb dX5_needed_92 (by decide) ?_
          have eS : Lp_X5_needed ka kb kc mo ki am sk x np n (d + 1) i lo9 hi9 v9 dn9 = Lp_X5_needed ka kb kc mo ki am sk x np n d (i + 1) lo9 ((lo9 + hi9) / 2) ((F_X5_lapse ka kb kc mo ki am sk dn9 (nI ((lo9 + hi9) / 2)) np n x.toNatClampNeg).2.1) ((F_X5_lapse ka kb kc mo ki am sk dn9 (nI ((lo9 + hi9) / 2)) np n x.toNatClampNeg).2.2) := by
            rw [Lp_X5_needed, if_neg c_2, if_pos c_3]
          have hl : lv_has ls 5 [(2, .int (nI lo9)), (3, .int (nI ((lo9 + hi9) / 2))), (0, .ref (h 18)), (1, .int x)] := by
            first | exact lv_sub hl [2, 0, 3, 4] rfl | (rw [← nI_1]; exact lv_sub hl [2, 0, 3, 4] rfl)
          exact ih (i + 1) lo9 ((lo9 + hi9) / 2) ((F_X5_lapse ka kb kc mo ki am sk dn9 (nI ((lo9 + hi9) / 2)) np n x.toNatClampNeg).2.1) ((F_X5_lapse ka kb kc mo ki am sk dn9 (nI ((lo9 + hi9) / 2)) np n x.toNatClampNeg).2.2) hx9 hw9 ⟨by omega, by omega, by omega⟩ (eS.symm.trans hF) _ _ _ (hW.re [0, 1, 2, 3, 4, 5] rfl rfl) hl
  refine lv_aload_n hx hb dX5_needed_0 rfl (lv_at hl 0 rfl) ?_
  refine lv_iload_n hx hb dX5_needed_1 rfl (lv_at hl 1 rfl) ?_
  refine lv_iconst (v := 1) hx hb dX5_needed_2 (by decide) ?_
  refine lv_bipush (v := 36) hx hb dX5_needed_3 (by decide) ?_
  refine k_callSi (As := [.int x, .int 1, .int 36]) (rest := [.ref (h 18)]) (wr := [cM h (ka, kb, kc, (nI np), (nI n)) v t, aI G (h 19) 60 mo, aI G (h 20) 60 ki, aI G (h 21) 60 am, aZ G (h 22) 60 sk, aZ G (h 23) 60 dn]) (c_X5_in l G x 1 36) S hK hW gX5_needed_X5_in rfl ⟨rfl, rfl⟩ nd_X5_in ⟨rfl, rfl⟩ [] [0, 1, 2, 3, 4, 5] rfl rfl rfl rfl (by decide) rfl hl.1 rfl dX5_needed_5 ⟨Nat.zero_le _, Nat.zero_le _⟩ (fun H locs hW => ?_)
  have hW : Wd G A sS.heap [cM h (ka, kb, kc, (nI np), (nI n)) v t, aI G (h 19) 60 mo, aI G (h 20) 60 ki, aI G (h 21) 60 am, aZ G (h 22) 60 sk, aZ G (h 23) 60 dn] H locs := hW
  refine lv_if_eq (tgt := 15) hx hb dX5_needed_8 (by decide) (fun c_4 => ?_) (fun c_4 => ?_)
  ·
    refine lv_iconst (v := 1) hx hb dX5_needed_15 (by decide) ?_
    refine k_put (C := RX5) (T := TX5) (N := 18) (ci := 5) (v := .int 1) (ws' := [cM h (ka, kb, kc, (nI np), (nI n)) v 1, aI G (h 19) 60 mo, aI G (h 20) 60 ki, aI G (h 21) 60 am, aZ G (h 22) 60 sk, aZ G (h 23) 60 dn]) S hK hW k_X5_needed_in5 tyX5_ok nmX5 0 17 rfl rfl (by decide) k_X5_needed_f34 rfl rfl rfl rfl rfl dX5_needed_16 (fun H locs hW => ?_)
    refine lv_aload_n hx hb dX5_needed_19 rfl (lv_at hl 0 rfl) ?_
    refine k_get (C := RX5) (T := TX5) (N := 18) (ci := 5) (v := .int 1) S hK hW k_X5_needed_in5 0 17 rfl rfl (by decide) k_X5_needed_f34 rfl dX5_needed_20 ?_
    refine lv_if_le (tgt := 28) hx hb dX5_needed_23 (by decide) (fun c_5 => ?_) (fun c_5 => ?_)
    ·
      exact absurd c_5 (by decide)
    ·
      refine lv_iconst (v := 0) hx hb dX5_needed_26 (by decide) ?_
      have eF : (F_X5_needed ka kb kc v mo ki am sk dn x np n) = (0, v, 1, dn) := by
        unfold F_X5_needed
        rw [if_pos c_4]
      exact k_iret (wf := [cM h (ka, kb, kc, (nI np), (nI n)) v 1, aI G (h 19) 60 mo, aI G (h 20) 60 ki, aI G (h 21) 60 am, aZ G (h 22) 60 sk, aZ G (h 23) 60 dn]) S hr hlk hK hW [0, 1, 2, 3, 4, 5] rfl rfl (congrArg (fun (z : Int32 × S7 × Int32 × (Nat → Bool)) => [cM h (ka, kb, kc, (nI np), (nI n)) z.2.1 z.2.2.1, aI G (h 19) 60 mo, aI G (h 20) 60 ki, aI G (h 21) 60 am, aZ G (h 22) 60 sk, aZ G (h 23) 60 z.2.2.2]) eF).symm (congrArg (fun (z : Int32 × S7 × Int32 × (Nat → Bool)) => z.1) eF).symm dX5_needed_27
  ·
    refine lv_iconst (v := 0) hx hb dX5_needed_11 (by decide) ?_
    refine lv_goto (tgt := 16) hx hb dX5_needed_12 (by decide) ?_
    refine k_put (C := RX5) (T := TX5) (N := 18) (ci := 5) (v := .int 0) (ws' := [cM h (ka, kb, kc, (nI np), (nI n)) v 0, aI G (h 19) 60 mo, aI G (h 20) 60 ki, aI G (h 21) 60 am, aZ G (h 22) 60 sk, aZ G (h 23) 60 dn]) S hK hW k_X5_needed_in5 tyX5_ok nmX5 0 17 rfl rfl (by decide) k_X5_needed_f34 rfl rfl rfl rfl rfl dX5_needed_16 (fun H locs hW => ?_)
    refine lv_aload_n hx hb dX5_needed_19 rfl (lv_at hl 0 rfl) ?_
    refine k_get (C := RX5) (T := TX5) (N := 18) (ci := 5) (v := .int 0) S hK hW k_X5_needed_in5 0 17 rfl rfl (by decide) k_X5_needed_f34 rfl dX5_needed_20 ?_
    refine lv_if_le (tgt := 28) hx hb dX5_needed_23 (by decide) (fun c_6 => ?_) (fun c_6 => ?_)
    ·
      refine lv_aload_n hx hb dX5_needed_28 rfl (lv_at hl 0 rfl) ?_
      refine k_callVv (C := RX5) (As := []) (rest := []) (wr := []) (c_X5_goNow l G h ka kb kc v 0 mo ki am sk dn np n (by omega) (by omega)) S hK hW gX5_needed_X5_goNow rfl ⟨rfl, rfl⟩ nd_X5_goNow ⟨rfl, rfl⟩ (qb := 0) (ci := 5) rfl rfl [0, 1, 2, 3, 4, 5] [] rfl rfl rfl rfl (by decide) rfl hl.1 rfl dX5_needed_29 ⟨Nat.zero_le _, Nat.zero_le _⟩ (fun H locs hW => ?_)
      have hW : Wd G A sS.heap [cM h (ka, kb, kc, (nI np), (nI n)) ((F_X5_goNow ka kb kc mo ki am sk dn np n).1) 0, aI G (h 19) 60 mo, aI G (h 20) 60 ki, aI G (h 21) 60 am, aZ G (h 22) 60 sk, aZ G (h 23) 60 ((F_X5_goNow ka kb kc mo ki am sk dn np n).2)] H locs := hW
      refine lv_aload_n hx hb dX5_needed_32 rfl (lv_at hl 0 rfl) ?_
      refine k_get (C := RX5) (T := TX5) (N := 18) (ci := 5) (v := .int (((F_X5_goNow ka kb kc mo ki am sk dn np n).1).1)) S hK hW k_X5_needed_in5 0 10 rfl rfl (by decide) k_X5_needed_f61 rfl dX5_needed_33 ?_
      refine lv_iconst (v := 1) hx hb dX5_needed_36 (by decide) ?_
      refine lv_icmp_gt (tgt := 51) hx hb dX5_needed_37 (by decide) (fun c_7 => ?_) (fun c_7 => ?_)
      ·
        refine lv_iconst (v := (-1)) hx hb dX5_needed_51 (by decide) ?_
        have eF : (F_X5_needed ka kb kc v mo ki am sk dn x np n) = ((-1), ((F_X5_goNow ka kb kc mo ki am sk dn np n).1), 0, (F_X5_goNow ka kb kc mo ki am sk dn np n).2) := by
          unfold F_X5_needed
          rw [if_neg c_4, if_pos c_7]
        exact k_iret (wf := [cM h (ka, kb, kc, (nI np), (nI n)) ((F_X5_goNow ka kb kc mo ki am sk dn np n).1) 0, aI G (h 19) 60 mo, aI G (h 20) 60 ki, aI G (h 21) 60 am, aZ G (h 22) 60 sk, aZ G (h 23) 60 ((F_X5_goNow ka kb kc mo ki am sk dn np n).2)]) S hr hlk hK hW [0, 1, 2, 3, 4, 5] rfl rfl (congrArg (fun (z : Int32 × S7 × Int32 × (Nat → Bool)) => [cM h (ka, kb, kc, (nI np), (nI n)) z.2.1 z.2.2.1, aI G (h 19) 60 mo, aI G (h 20) 60 ki, aI G (h 21) 60 am, aZ G (h 22) 60 sk, aZ G (h 23) 60 z.2.2.2]) eF).symm (congrArg (fun (z : Int32 × S7 × Int32 × (Nat → Bool)) => z.1) eF).symm dX5_needed_52
      ·
        refine lv_aload_n hx hb dX5_needed_40 rfl (lv_at hl 0 rfl) ?_
        refine lv_iload_n hx hb dX5_needed_41 rfl (lv_at hl 1 rfl) ?_
        refine k_ldc S k_X5_needed_c133 dX5_needed_42 ?_
        have hy44 : x.toNatClampNeg ≤ 36 := (in5_le (b := 36) (by omega) (by decide +kernel) c_4).2.1
        refine W.eq (g2 := F0 mM 44 ls [.int 2000000, .int (nI x.toNatClampNeg), .ref (h 18)]) (by rw [← (in5_le (b := 36) (by omega) (by decide +kernel) c_4).1]) ?_
        refine k_callVi (C := RX5) (As := [.int (nI x.toNatClampNeg), .int 2000000]) (rest := []) (wr := []) (c_X5_lapse l G h ka kb kc ((F_X5_goNow ka kb kc mo ki am sk dn np n).1) 0 mo ki am sk ((F_X5_goNow ka kb kc mo ki am sk dn np n).2) 2000000 np n x.toNatClampNeg (by omega) (by omega) (by omega)) S hK hW gX5_needed_X5_lapse rfl ⟨rfl, rfl⟩ nd_X5_lapse ⟨rfl, rfl⟩ (qb := 0) (ci := 5) rfl rfl [0, 1, 2, 3, 4, 5] [] rfl rfl rfl rfl (by decide) rfl hl.1 rfl dX5_needed_44 ⟨Nat.zero_le _, Nat.zero_le _⟩ (fun H locs hW => ?_)
        have hW : Wd G A sS.heap [cM h (ka, kb, kc, (nI np), (nI n)) ((F_X5_lapse ka kb kc mo ki am sk ((F_X5_goNow ka kb kc mo ki am sk dn np n).2) 2000000 np n x.toNatClampNeg).2.1) 0, aI G (h 19) 60 mo, aI G (h 20) 60 ki, aI G (h 21) 60 am, aZ G (h 22) 60 sk, aZ G (h 23) 60 ((F_X5_lapse ka kb kc mo ki am sk ((F_X5_goNow ka kb kc mo ki am sk dn np n).2) 2000000 np n x.toNatClampNeg).2.2)] H locs := hW
        refine lv_iconst (v := (-1)) hx hb dX5_needed_47 (by decide) ?_
        refine lv_icmp_eq (tgt := 53) hx hb dX5_needed_48 (by decide) (fun c_8 => ?_) (fun c_8 => ?_)
        ·
          have hx0 : x = nI x.toNatClampNeg := (in5_le (b := 36) (by omega) (by decide +kernel) c_4).1
          have hx1 : x.toNatClampNeg ≤ 36 := (in5_le (b := 36) (by omega) (by decide +kernel) c_4).2.1
          refine lv_iconst (v := 0) hx hb dX5_needed_53 (by decide) ?_
          refine lv_istore_n (lv' := [(2, .int 0), (0, .ref (h 18)), (1, .int x)]) hx hb dX5_needed_54 rfl hl (by decide) rfl (fun ls hl => ?_)
          refine k_ldc S k_X5_needed_c133 dX5_needed_55 ?_
          refine lv_istore_n (lv' := [(3, .int 2000000), (2, .int 0), (0, .ref (h 18)), (1, .int x)]) hx hb dX5_needed_57 rfl hl (by decide) rfl (fun ls hl => ?_)
          have eF : (F_X5_needed ka kb kc v mo ki am sk dn x np n) = Lp_X5_needed ka kb kc mo ki am sk x np n 21 0 0 2000000 ((F_X5_lapse ka kb kc mo ki am sk ((F_X5_goNow ka kb kc mo ki am sk dn np n).2) 2000000 np n x.toNatClampNeg).2.1) ((F_X5_lapse ka kb kc mo ki am sk ((F_X5_goNow ka kb kc mo ki am sk dn np n).2) 2000000 np n x.toNatClampNeg).2.2) := by
            unfold F_X5_needed
            rw [if_neg c_4, if_neg c_7, if_pos c_8]
          exact key 21 0 0 2000000 ((F_X5_lapse ka kb kc mo ki am sk ((F_X5_goNow ka kb kc mo ki am sk dn np n).2) 2000000 np n x.toNatClampNeg).2.1) ((F_X5_lapse ka kb kc mo ki am sk ((F_X5_goNow ka kb kc mo ki am sk dn np n).2) 2000000 np n x.toNatClampNeg).2.2) hx0 hx1 ⟨by omega, by omega, by decide⟩ eF.symm _ _ _ (hW.re [0, 1, 2, 3, 4, 5] rfl rfl) (lv_sub hl [1, 0, 2, 3] (by rw [nI_0, ← nI_2m] <;> rfl))
        ·
          refine lv_iconst (v := (-1)) hx hb dX5_needed_51 (by decide) ?_
          have eF : (F_X5_needed ka kb kc v mo ki am sk dn x np n) = ((-1), ((F_X5_lapse ka kb kc mo ki am sk ((F_X5_goNow ka kb kc mo ki am sk dn np n).2) 2000000 np n x.toNatClampNeg).2.1), 0, (F_X5_lapse ka kb kc mo ki am sk ((F_X5_goNow ka kb kc mo ki am sk dn np n).2) 2000000 np n x.toNatClampNeg).2.2) := by
            unfold F_X5_needed
            rw [if_neg c_4, if_neg c_7, if_neg c_8]
          exact k_iret (wf := [cM h (ka, kb, kc, (nI np), (nI n)) ((F_X5_lapse ka kb kc mo ki am sk ((F_X5_goNow ka kb kc mo ki am sk dn np n).2) 2000000 np n x.toNatClampNeg).2.1) 0, aI G (h 19) 60 mo, aI G (h 20) 60 ki, aI G (h 21) 60 am, aZ G (h 22) 60 sk, aZ G (h 23) 60 ((F_X5_lapse ka kb kc mo ki am sk ((F_X5_goNow ka kb kc mo ki am sk dn np n).2) 2000000 np n x.toNatClampNeg).2.2)]) S hr hlk hK hW [0, 1, 2, 3, 4, 5] rfl rfl (congrArg (fun (z : Int32 × S7 × Int32 × (Nat → Bool)) => [cM h (ka, kb, kc, (nI np), (nI n)) z.2.1 z.2.2.1, aI G (h 19) 60 mo, aI G (h 20) 60 ki, aI G (h 21) 60 am, aZ G (h 22) 60 sk, aZ G (h 23) 60 z.2.2.2]) eF).symm (congrArg (fun (z : Int32 × S7 × Int32 × (Nat → Bool)) => z.1) eF).symm dX5_needed_52
    ·
      exact absurd c_6 (by decide)
