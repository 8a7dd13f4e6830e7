theorem nd_L_told : yL_told.cls ≠ "java/lang/invoke/MethodHandle" ∧ yL_told.cls ≠ "java/lang/invoke/VarHandle" ∧ (parseMethodDescriptor yL_told.desc).map (fun d => d.parameters.length) = some 4 := by decide +kernel
theorem nd_L_does : yL_does.cls ≠ "java/lang/invoke/MethodHandle" ∧ yL_does.cls ≠ "java/lang/invoke/VarHandle" ∧ (parseMethodDescriptor yL_does.desc).map (fun d => d.parameters.length) = some 3 := by decide +kernel
set_option maxRecDepth 100000 in
theorem k_L_told_cl60 : Cond.classLink RL 60 nISE ∈ wsL_told := by decide +kernel
abbrev rm_L_told : Room := { frames := 7, cells := 1, slots := 6, locals := 156 }
set_option maxHeartbeats 4000000 in
set_option maxRecDepth 100000 in
theorem c_L_told (l : Launch) (hst : l.stackTraces = false) (G : GG) (h : Nat → Nat) (mo : (Nat → Int32)) (ki : (Nat → Int32)) (am : (Nat → Int32)) (sk : (Nat → Bool)) (dn : (Nat → Bool)) (y1 : (Nat → Int32)) (y2 : (Nat → Int32)) (y3 : (Nat → Int32)) (y4 : (Nat → Int32)) (y5 : (Nat → Int32)) (y6 : (Nat → Int32)) (y7 : (Nat → Int32)) (q : S3) (v : S7) (m : Int32) (k : Int32) (x : Int32) (np : Nat) (n : Nat) (hn : n ≤ 60) (hp : np ≤ 120) (h1 : ¬ (F_X4_tell mo ki am sk dn y1 y2 y3 y4 y5 y6 y7 q v m k x np n).1 = 1) : CZ l G yL_told wsL_told rm_L_told [.ref (h 0), .int m, .int k, .int x] [cF h (nI np), cB h (nI n), aI G (h 6) 60 mo, aI G (h 7) 60 ki, aI G (h 8) 60 am, aZ G (h 9) 60 sk, aZ G (h 10) 60 dn, cH h, aI G (h 11) 121 y1, aI G (h 12) 121 y2, aI G (h 13) 121 y3, aI G (h 14) 121 y4, aI G (h 15) 121 y5, aI G (h 16) 121 y6, aI G (h 17) 121 y7, cP (h 1) q, cS (h 4) v] ((F_X4_tell mo ki am sk dn y1 y2 y3 y4 y5 y6 y7 q v m k x np n).1) (bI ((F_X4_tell mo ki am sk dn y1 y2 y3 y4 y5 y6 y7 q v m k x np n).2.1)) (-13) [cF h (nI np), cB h ((F_X4_tell mo ki am sk dn y1 y2 y3 y4 y5 y6 y7 q v m k x np n).2.2.1), aI G (h 6) 60 ((F_X4_tell mo ki am sk dn y1 y2 y3 y4 y5 y6 y7 q v m k x np n).2.2.2.1), aI G (h 7) 60 ((F_X4_tell mo ki am sk dn y1 y2 y3 y4 y5 y6 y7 q v m k x np n).2.2.2.2.1), aI G (h 8) 60 ((F_X4_tell mo ki am sk dn y1 y2 y3 y4 y5 y6 y7 q v m k x np n).2.2.2.2.2.1), aZ G (h 9) 60 ((F_X4_tell mo ki am sk dn y1 y2 y3 y4 y5 y6 y7 q v m k x np n).2.2.2.2.2.2.1), aZ G (h 10) 60 ((F_X4_tell mo ki am sk dn y1 y2 y3 y4 y5 y6 y7 q v m k x np n).2.2.2.2.2.2.2.1), cH h, aI G (h 11) 121 ((F_X4_tell mo ki am sk dn y1 y2 y3 y4 y5 y6 y7 q v m k x np n).2.2.2.2.2.2.2.2.1), aI G (h 12) 121 ((F_X4_tell mo ki am sk dn y1 y2 y3 y4 y5 y6 y7 q v m k x np n).2.2.2.2.2.2.2.2.2.1), aI G (h 13) 121 ((F_X4_tell mo ki am sk dn y1 y2 y3 y4 y5 y6 y7 q v m k x np n).2.2.2.2.2.2.2.2.2.2.1), aI G (h 14) 121 ((F_X4_tell mo ki am sk dn y1 y2 y3 y4 y5 y6 y7 q v m k x np n).2.2.2.2.2.2.2.2.2.2.2.1), aI G (h 15) 121 ((F_X4_tell mo ki am sk dn y1 y2 y3 y4 y5 y6 y7 q v m k x np n).2.2.2.2.2.2.2.2.2.2.2.2.1), aI G (h 16) 121 ((F_X4_tell mo ki am sk dn y1 y2 y3 y4 y5 y6 y7 q v m k x np n).2.2.2.2.2.2.2.2.2.2.2.2.2.1), aI G (h 17) 121 ((F_X4_tell mo ki am sk dn y1 y2 y3 y4 y5 y6 y7 q v m k x np n).2.2.2.2.2.2.2.2.2.2.2.2.2.2.1), cP (h 1) q, cS (h 4) ((F_X4_tell mo ki am sk dn y1 y2 y3 y4 y5 y6 y7 q v m k x np n).2.2.2.2.2.2.2.2.2.2.2.2.2.2.2)] := by
  refine CZ_of (own := RL) (by decide +kernel) rfl rfl (Nat.le_of_ble_eq_true rfl) ?_
  intro pP eE sS mM args below meth cC A S hK hr hlk htb hXE hXZ hW ls hl
  have hx := S.1
  have hb := S.2.1
  have hts := S.2.2.2.2
  have hl : lv_has ls 5 [(0, .ref (h 0)), (1, .int m), (2, .int k), (3, .int x)] := hl
  have hW : Wd G A sS.heap [cF h (nI np), cB h (nI n), aI G (h 6) 60 mo, aI G (h 7) 60 ki, aI G (h 8) 60 am, aZ G (h 9) 60 sk, aZ G (h 10) 60 dn, cH h, aI G (h 11) 121 y1, aI G (h 12) 121 y2, aI G (h 13) 121 y3, aI G (h 14) 121 y4, aI G (h 15) 121 y5, aI G (h 16) 121 y6, aI G (h 17) 121 y7, cP (h 1) q, cS (h 4) v] sS.heap [] := hW
  refine lv_aload_n hx hb dL_told_0 rfl (lv_at hl 0 rfl) ?_
  refine lv_iload_n hx hb dL_told_1 rfl (lv_at hl 1 rfl) ?_
  refine lv_iload_n hx hb dL_told_2 rfl (lv_at hl 2 rfl) ?_
  refine lv_iload_n hx hb dL_told_3 rfl (lv_at hl 3 rfl) ?_
  refine kx_callV (C := RX4) (As := [.int m, .int k, .int x]) (rest := []) (wr := []) (c_X4_tell l hst G h mo ki am sk dn y1 y2 y3 y4 y5 y6 y7 q v m k x np n hn hp) S hK hW hXE hXZ gL_told_X4_tell rfl ⟨rfl, rfl⟩ nd_X4_tell ⟨rfl, rfl⟩ (qb := 0) (ci := 4) rfl rfl [0, 1, 2, 3, 4, 5, 6, 7, 8, 9, 10, 11, 12, 13, 14, 15, 16] [] rfl rfl rfl rfl (by decide) rfl hl.1 rfl dL_told_4 ⟨rfl, rfl⟩ (fun H locs q9 ce E hE hW hq9 hv9 hc9 => ?_) (fun H locs hk0 hW => ?_)
  ·
    have hW : Wd G A sS.heap [cF h (nI np), cB h (nI n), aI G (h 6) 60 mo, aI G (h 7) 60 ki, aI G (h 8) 60 am, aZ G (h 9) 60 sk, aZ G (h 10) 60 dn, cH h, aI G (h 11) 121 y1, aI G (h 12) 121 y2, aI G (h 13) 121 y3, aI G (h 14) 121 y4, aI G (h 15) 121 y5, aI G (h 16) 121 y6, aI G (h 17) 121 y7, cP (h 1) q, cS (h 4) v] H locs := hW
    obtain ⟨q, hq, hk, rfl⟩ := hE
    rcases List.mem_cons.mp hq with rfl | hq
    ·
      exact absurd hk h1
    ·
      obtain rfl := List.mem_singleton.mp hq
      refine vx_catch (name := nISE) S.2.2.2.1 [] ⟨0, 15, 16, 60⟩ [] htb (fun _ h => absurd h List.not_mem_nil) (by decide) (by decide) (hts _ k_L_told_cl60) (va_Nw.use rfl hXE.2.1) hq9 hv9 hc9 ?_
      refine lv_astore (lv' := [(4, .ref q9), (0, .ref (h 0)), (1, .int m), (2, .int k), (3, .int x)]) hx hb dL_told_16 hl (by decide) rfl (fun ls hl => ?_)
      refine lv_bipush (v := (-13)) hx hb dL_told_18 (by decide) ?_
      exact kz_iret S hr hlk hK false (wf := [cF h (nI np), cB h (nI n), aI G (h 6) 60 mo, aI G (h 7) 60 ki, aI G (h 8) 60 am, aZ G (h 9) 60 sk, aZ G (h 10) 60 dn, cH h, aI G (h 11) 121 y1, aI G (h 12) 121 y2, aI G (h 13) 121 y3, aI G (h 14) 121 y4, aI G (h 15) 121 y5, aI G (h 16) 121 y6, aI G (h 17) 121 y7, cP (h 1) q, cS (h 4) v]) hW [0, 1, 2, 3, 4, 5, 6, 7, 8, 9, 10, 11, 12, 13, 14, 15, 16] rfl rfl rfl ⟨fun z => (by cases z), fun _ => ⟨fun z => absurd (hk.symm.trans z) (by decide), rfl⟩⟩ rfl rfl dL_told_20
  ·
    have hW : Wd G A sS.heap [cF h (nI np), cB h ((F_X4_tell mo ki am sk dn y1 y2 y3 y4 y5 y6 y7 q v m k x np n).2.2.1), aI G (h 6) 60 ((F_X4_tell mo ki am sk dn y1 y2 y3 y4 y5 y6 y7 q v m k x np n).2.2.2.1), aI G (h 7) 60 ((F_X4_tell mo ki am sk dn y1 y2 y3 y4 y5 y6 y7 q v m k x np n).2.2.2.2.1), aI G (h 8) 60 ((F_X4_tell mo ki am sk dn y1 y2 y3 y4 y5 y6 y7 q v m k x np n).2.2.2.2.2.1), aZ G (h 9) 60 ((F_X4_tell mo ki am sk dn y1 y2 y3 y4 y5 y6 y7 q v m k x np n).2.2.2.2.2.2.1), aZ G (h 10) 60 ((F_X4_tell mo ki am sk dn y1 y2 y3 y4 y5 y6 y7 q v m k x np n).2.2.2.2.2.2.2.1), cH h, aI G (h 11) 121 ((F_X4_tell mo ki am sk dn y1 y2 y3 y4 y5 y6 y7 q v m k x np n).2.2.2.2.2.2.2.2.1), aI G (h 12) 121 ((F_X4_tell mo ki am sk dn y1 y2 y3 y4 y5 y6 y7 q v m k x np n).2.2.2.2.2.2.2.2.2.1), aI G (h 13) 121 ((F_X4_tell mo ki am sk dn y1 y2 y3 y4 y5 y6 y7 q v m k x np n).2.2.2.2.2.2.2.2.2.2.1), aI G (h 14) 121 ((F_X4_tell mo ki am sk dn y1 y2 y3 y4 y5 y6 y7 q v m k x np n).2.2.2.2.2.2.2.2.2.2.2.1), aI G (h 15) 121 ((F_X4_tell mo ki am sk dn y1 y2 y3 y4 y5 y6 y7 q v m k x np n).2.2.2.2.2.2.2.2.2.2.2.2.1), aI G (h 16) 121 ((F_X4_tell mo ki am sk dn y1 y2 y3 y4 y5 y6 y7 q v m k x np n).2.2.2.2.2.2.2.2.2.2.2.2.2.1), aI G (h 17) 121 ((F_X4_tell mo ki am sk dn y1 y2 y3 y4 y5 y6 y7 q v m k x np n).2.2.2.2.2.2.2.2.2.2.2.2.2.2.1), cP (h 1) q, cS (h 4) ((F_X4_tell mo ki am sk dn y1 y2 y3 y4 y5 y6 y7 q v m k x np n).2.2.2.2.2.2.2.2.2.2.2.2.2.2.2)] H locs := hW
    refine lv_if_eq (tgt := 14) hx hb dL_told_7 (by decide) (fun c_1 => ?_) (fun c_1 => ?_)
    ·
      refine lv_iconst (v := 0) hx hb dL_told_14 (by decide) ?_
      exact kz_iret S hr hlk hK true (wf := [cF h (nI np), cB h ((F_X4_tell mo ki am sk dn y1 y2 y3 y4 y5 y6 y7 q v m k x np n).2.2.1), aI G (h 6) 60 ((F_X4_tell mo ki am sk dn y1 y2 y3 y4 y5 y6 y7 q v m k x np n).2.2.2.1), aI G (h 7) 60 ((F_X4_tell mo ki am sk dn y1 y2 y3 y4 y5 y6 y7 q v m k x np n).2.2.2.2.1), aI G (h 8) 60 ((F_X4_tell mo ki am sk dn y1 y2 y3 y4 y5 y6 y7 q v m k x np n).2.2.2.2.2.1), aZ G (h 9) 60 ((F_X4_tell mo ki am sk dn y1 y2 y3 y4 y5 y6 y7 q v m k x np n).2.2.2.2.2.2.1), aZ G (h 10) 60 ((F_X4_tell mo ki am sk dn y1 y2 y3 y4 y5 y6 y7 q v m k x np n).2.2.2.2.2.2.2.1), cH h, aI G (h 11) 121 ((F_X4_tell mo ki am sk dn y1 y2 y3 y4 y5 y6 y7 q v m k x np n).2.2.2.2.2.2.2.2.1), aI G (h 12) 121 ((F_X4_tell mo ki am sk dn y1 y2 y3 y4 y5 y6 y7 q v m k x np n).2.2.2.2.2.2.2.2.2.1), aI G (h 13) 121 ((F_X4_tell mo ki am sk dn y1 y2 y3 y4 y5 y6 y7 q v m k x np n).2.2.2.2.2.2.2.2.2.2.1), aI G (h 14) 121 ((F_X4_tell mo ki am sk dn y1 y2 y3 y4 y5 y6 y7 q v m k x np n).2.2.2.2.2.2.2.2.2.2.2.1), aI G (h 15) 121 ((F_X4_tell mo ki am sk dn y1 y2 y3 y4 y5 y6 y7 q v m k x np n).2.2.2.2.2.2.2.2.2.2.2.2.1), aI G (h 16) 121 ((F_X4_tell mo ki am sk dn y1 y2 y3 y4 y5 y6 y7 q v m k x np n).2.2.2.2.2.2.2.2.2.2.2.2.2.1), aI G (h 17) 121 ((F_X4_tell mo ki am sk dn y1 y2 y3 y4 y5 y6 y7 q v m k x np n).2.2.2.2.2.2.2.2.2.2.2.2.2.2.1), cP (h 1) q, cS (h 4) ((F_X4_tell mo ki am sk dn y1 y2 y3 y4 y5 y6 y7 q v m k x np n).2.2.2.2.2.2.2.2.2.2.2.2.2.2.2)]) hW [0, 1, 2, 3, 4, 5, 6, 7, 8, 9, 10, 11, 12, 13, 14, 15, 16] rfl rfl rfl ⟨fun _ => ⟨hk0, (by rw [bI0.mp c_1]; rfl)⟩, fun z => (by cases z)⟩ rfl rfl dL_told_15
    ·
      refine lv_iconst (v := 1) hx hb dL_told_10 (by decide) ?_
      refine lv_goto (tgt := 15) hx hb dL_told_11 (by decide) ?_
      exact kz_iret S hr hlk hK true (wf := [cF h (nI np), cB h ((F_X4_tell mo ki am sk dn y1 y2 y3 y4 y5 y6 y7 q v m k x np n).2.2.1), aI G (h 6) 60 ((F_X4_tell mo ki am sk dn y1 y2 y3 y4 y5 y6 y7 q v m k x np n).2.2.2.1), aI G (h 7) 60 ((F_X4_tell mo ki am sk dn y1 y2 y3 y4 y5 y6 y7 q v m k x np n).2.2.2.2.1), aI G (h 8) 60 ((F_X4_tell mo ki am sk dn y1 y2 y3 y4 y5 y6 y7 q v m k x np n).2.2.2.2.2.1), aZ G (h 9) 60 ((F_X4_tell mo ki am sk dn y1 y2 y3 y4 y5 y6 y7 q v m k x np n).2.2.2.2.2.2.1), aZ G (h 10) 60 ((F_X4_tell mo ki am sk dn y1 y2 y3 y4 y5 y6 y7 q v m k x np n).2.2.2.2.2.2.2.1), cH h, aI G (h 11) 121 ((F_X4_tell mo ki am sk dn y1 y2 y3 y4 y5 y6 y7 q v m k x np n).2.2.2.2.2.2.2.2.1), aI G (h 12) 121 ((F_X4_tell mo ki am sk dn y1 y2 y3 y4 y5 y6 y7 q v m k x np n).2.2.2.2.2.2.2.2.2.1), aI G (h 13) 121 ((F_X4_tell mo ki am sk dn y1 y2 y3 y4 y5 y6 y7 q v m k x np n).2.2.2.2.2.2.2.2.2.2.1), aI G (h 14) 121 ((F_X4_tell mo ki am sk dn y1 y2 y3 y4 y5 y6 y7 q v m k x np n).2.2.2.2.2.2.2.2.2.2.2.1), aI G (h 15) 121 ((F_X4_tell mo ki am sk dn y1 y2 y3 y4 y5 y6 y7 q v m k x np n).2.2.2.2.2.2.2.2.2.2.2.2.1), aI G (h 16) 121 ((F_X4_tell mo ki am sk dn y1 y2 y3 y4 y5 y6 y7 q v m k x np n).2.2.2.2.2.2.2.2.2.2.2.2.2.1), aI G (h 17) 121 ((F_X4_tell mo ki am sk dn y1 y2 y3 y4 y5 y6 y7 q v m k x np n).2.2.2.2.2.2.2.2.2.2.2.2.2.2.1), cP (h 1) q, cS (h 4) ((F_X4_tell mo ki am sk dn y1 y2 y3 y4 y5 y6 y7 q v m k x np n).2.2.2.2.2.2.2.2.2.2.2.2.2.2.2)]) hW [0, 1, 2, 3, 4, 5, 6, 7, 8, 9, 10, 11, 12, 13, 14, 15, 16] rfl rfl rfl ⟨fun _ => ⟨hk0, (by rw [nbI0.mp c_1]; rfl)⟩, fun z => (by cases z)⟩ rfl rfl dL_told_15
set_option maxRecDepth 100000 in
theorem k_L_does0_cl72 : Cond.classLink RL 72 nIOB ∈ wsL_does := by decide +kernel
abbrev rm_L_does0 : Room := { frames := 7, cells := 1, slots := 6, locals := 154 }
set_option maxHeartbeats 4000000 in
set_option maxRecDepth 100000 in
theorem c_L_does0 (l : Launch) (hst : l.stackTraces = false) (G : GG) (h : Nat → Nat) (mo : (Nat → Int32)) (ki : (Nat → Int32)) (am : (Nat → Int32)) (sk : (Nat → Bool)) (dn : (Nat → Bool)) (y1 : (Nat → Int32)) (y2 : (Nat → Int32)) (y3 : (Nat → Int32)) (y4 : (Nat → Int32)) (y5 : (Nat → Int32)) (y6 : (Nat → Int32)) (y7 : (Nat → Int32)) (q : S3) (v : S7) (x : Int32) (np : Nat) (n : Nat) (hn : n ≤ 60) (hp : np ≤ 120) (hmo : ∀ k, k < n → 0 ≤ mo k ∧ mo k ≤ nI np) : CZ l G yL_does wsL_does rm_L_does0 [.ref (h 0), .int 0, .int x] [cF h (nI np), cB h (nI n), aI G (h 6) 60 mo, aI G (h 7) 60 ki, aI G (h 8) 60 am, aZ G (h 9) 60 sk, aZ G (h 10) 60 dn, cH h, aI G (h 11) 121 y1, aI G (h 12) 121 y2, aI G (h 13) 121 y3, aI G (h 14) 121 y4, aI G (h 15) 121 y5, aI G (h 16) 121 y6, aI G (h 17) 121 y7, cP (h 1) q, cS (h 4) v] ((F_X4_strike mo ki am sk dn y1 y2 y3 y4 y5 y6 y7 q v x np n).1) ((F_X4_strike mo ki am sk dn y1 y2 y3 y4 y5 y6 y7 q v x np n).2.1) (-11) [cF h (nI np), cB h (nI n), aI G (h 6) 60 mo, aI G (h 7) 60 ki, aI G (h 8) 60 am, aZ G (h 9) 60 ((F_X4_strike mo ki am sk dn y1 y2 y3 y4 y5 y6 y7 q v x np n).2.2.1), aZ G (h 10) 60 ((F_X4_strike mo ki am sk dn y1 y2 y3 y4 y5 y6 y7 q v x np n).2.2.2.1), cH h, aI G (h 11) 121 ((F_X4_strike mo ki am sk dn y1 y2 y3 y4 y5 y6 y7 q v x np n).2.2.2.2.1), aI G (h 12) 121 ((F_X4_strike mo ki am sk dn y1 y2 y3 y4 y5 y6 y7 q v x np n).2.2.2.2.2.1), aI G (h 13) 121 ((F_X4_strike mo ki am sk dn y1 y2 y3 y4 y5 y6 y7 q v x np n).2.2.2.2.2.2.1), aI G (h 14) 121 ((F_X4_strike mo ki am sk dn y1 y2 y3 y4 y5 y6 y7 q v x np n).2.2.2.2.2.2.2.1), aI G (h 15) 121 ((F_X4_strike mo ki am sk dn y1 y2 y3 y4 y5 y6 y7 q v x np n).2.2.2.2.2.2.2.2.1), aI G (h 16) 121 ((F_X4_strike mo ki am sk dn y1 y2 y3 y4 y5 y6 y7 q v x np n).2.2.2.2.2.2.2.2.2.1), aI G (h 17) 121 ((F_X4_strike mo ki am sk dn y1 y2 y3 y4 y5 y6 y7 q v x np n).2.2.2.2.2.2.2.2.2.2.1), cP (h 1) q, cS (h 4) ((F_X4_strike mo ki am sk dn y1 y2 y3 y4 y5 y6 y7 q v x np n).2.2.2.2.2.2.2.2.2.2.2)] := by
  refine CZ_of (own := RL) (by decide +kernel) rfl rfl (Nat.le_of_ble_eq_true rfl) ?_
  intro pP eE sS mM args below meth cC A S hK hr hlk htb hXE hXZ hW ls hl
  have hx := S.1
  have hb := S.2.1
  have hts := S.2.2.2.2
  have hl : lv_has ls 4 [(0, .ref (h 0)), (1, .int 0), (2, .int x)] := hl
  have hW : Wd G A sS.heap [cF h (nI np), cB h (nI n), aI G (h 6) 60 mo, aI G (h 7) 60 ki, aI G (h 8) 60 am, aZ G (h 9) 60 sk, aZ G (h 10) 60 dn, cH h, aI G (h 11) 121 y1, aI G (h 12) 121 y2, aI G (h 13) 121 y3, aI G (h 14) 121 y4, aI G (h 15) 121 y5, aI G (h 16) 121 y6, aI G (h 17) 121 y7, cP (h 1) q, cS (h 4) v] sS.heap [] := hW
  refine lv_iload_n hx hb dL_does_0 rfl (lv_at hl 1 rfl) ?_
  refine lv_if_ne (tgt := 12) hx hb dL_does_1 (by decide) (fun c_1 => ?_) (fun c_1 => ?_)
  ·
    exact absurd c_1 (by decide)
  ·
    refine lv_aload_n hx hb dL_does_4 rfl (lv_at hl 0 rfl) ?_
    refine lv_iload_n hx hb dL_does_5 rfl (lv_at hl 2 rfl) ?_
    refine kx_callV (C := RX4) (As := [.int x]) (rest := []) (wr := []) (c_X4_strike l hst G h mo ki am sk dn y1 y2 y3 y4 y5 y6 y7 q v x np n hn hp hmo) S hK hW hXE hXZ gL_does_X4_strike rfl ⟨rfl, rfl⟩ nd_X4_strike ⟨rfl, rfl⟩ (qb := 0) (ci := 4) rfl rfl [0, 1, 2, 3, 4, 5, 6, 7, 8, 9, 10, 11, 12, 13, 14, 15, 16] [] rfl rfl rfl rfl (by decide) rfl hl.1 rfl dL_does_6 ⟨rfl, rfl⟩ (fun H locs q9 ce E hE hW hq9 hv9 hc9 => ?_) (fun H locs hk0 hW => ?_)
    ·
      have hW : Wd G A sS.heap [cF h (nI np), cB h (nI n), aI G (h 6) 60 mo, aI G (h 7) 60 ki, aI G (h 8) 60 am, aZ G (h 9) 60 sk, aZ G (h 10) 60 dn, cH h, aI G (h 11) 121 y1, aI G (h 12) 121 y2, aI G (h 13) 121 y3, aI G (h 14) 121 y4, aI G (h 15) 121 y5, aI G (h 16) 121 y6, aI G (h 17) 121 y7, cP (h 1) q, cS (h 4) v] H locs := hW
      obtain ⟨q, hq, hk, rfl⟩ := hE
      obtain rfl := List.mem_singleton.mp hq
      refine vx_catch (name := nIOB) S.2.2.2.1 [] ⟨0, 38, 39, 72⟩ [⟨0, 38, 43, 60⟩] htb (fun _ h => absurd h List.not_mem_nil) (by decide) (by decide) (hts _ k_L_does0_cl72) (va_Nw.use rfl hXE.2.2.1) hq9 hv9 hc9 ?_
      refine lv_astore_n (lv' := [(3, .ref q9), (0, .ref (h 0)), (1, .int 0), (2, .int x)]) hx hb dL_does_39 rfl hl (by decide) rfl (fun ls hl => ?_)
      refine lv_bipush (v := (-11)) hx hb dL_does_40 (by decide) ?_
      exact kz_iret S hr hlk hK false (wf := [cF h (nI np), cB h (nI n), aI G (h 6) 60 mo, aI G (h 7) 60 ki, aI G (h 8) 60 am, aZ G (h 9) 60 sk, aZ G (h 10) 60 dn, cH h, aI G (h 11) 121 y1, aI G (h 12) 121 y2, aI G (h 13) 121 y3, aI G (h 14) 121 y4, aI G (h 15) 121 y5, aI G (h 16) 121 y6, aI G (h 17) 121 y7, cP (h 1) q, cS (h 4) v]) hW [0, 1, 2, 3, 4, 5, 6, 7, 8, 9, 10, 11, 12, 13, 14, 15, 16] rfl rfl rfl ⟨fun z => (by cases z), fun _ => ⟨fun z => absurd (hk.symm.trans z) (by decide), rfl⟩⟩ rfl rfl dL_does_42
    ·
      have hW : Wd G A sS.heap [cF h (nI np), cB h (nI n), aI G (h 6) 60 mo, aI G (h 7) 60 ki, aI G (h 8) 60 am, aZ G (h 9) 60 ((F_X4_strike mo ki am sk dn y1 y2 y3 y4 y5 y6 y7 q v x np n).2.2.1), aZ G (h 10) 60 ((F_X4_strike mo ki am sk dn y1 y2 y3 y4 y5 y6 y7 q v x np n).2.2.2.1), cH h, aI G (h 11) 121 ((F_X4_strike mo ki am sk dn y1 y2 y3 y4 y5 y6 y7 q v x np n).2.2.2.2.1), aI G (h 12) 121 ((F_X4_strike mo ki am sk dn y1 y2 y3 y4 y5 y6 y7 q v x np n).2.2.2.2.2.1), aI G (h 13) 121 ((F_X4_strike mo ki am sk dn y1 y2 y3 y4 y5 y6 y7 q v x np n).2.2.2.2.2.2.1), aI G (h 14) 121 ((F_X4_strike mo ki am sk dn y1 y2 y3 y4 y5 y6 y7 q v x np n).2.2.2.2.2.2.2.1), aI G (h 15) 121 ((F_X4_strike mo ki am sk dn y1 y2 y3 y4 y5 y6 y7 q v x np n).2.2.2.2.2.2.2.2.1), aI G (h 16) 121 ((F_X4_strike mo ki am sk dn y1 y2 y3 y4 y5 y6 y7 q v x np n).2.2.2.2.2.2.2.2.2.1), aI G (h 17) 121 ((F_X4_strike mo ki am sk dn y1 y2 y3 y4 y5 y6 y7 q v x np n).2.2.2.2.2.2.2.2.2.2.1), cP (h 1) q, cS (h 4) ((F_X4_strike mo ki am sk dn y1 y2 y3 y4 y5 y6 y7 q v x np n).2.2.2.2.2.2.2.2.2.2.2)] H locs := hW
      refine lv_goto (tgt := 38) hx hb dL_does_9 (by decide) ?_
      exact kz_iret S hr hlk hK true (wf := [cF h (nI np), cB h (nI n), aI G (h 6) 60 mo, aI G (h 7) 60 ki, aI G (h 8) 60 am, aZ G (h 9) 60 ((F_X4_strike mo ki am sk dn y1 y2 y3 y4 y5 y6 y7 q v x np n).2.2.1), aZ G (h 10) 60 ((F_X4_strike mo ki am sk dn y1 y2 y3 y4 y5 y6 y7 q v x np n).2.2.2.1), cH h, aI G (h 11) 121 ((F_X4_strike mo ki am sk dn y1 y2 y3 y4 y5 y6 y7 q v x np n).2.2.2.2.1), aI G (h 12) 121 ((F_X4_strike mo ki am sk dn y1 y2 y3 y4 y5 y6 y7 q v x np n).2.2.2.2.2.1), aI G (h 13) 121 ((F_X4_strike mo ki am sk dn y1 y2 y3 y4 y5 y6 y7 q v x np n).2.2.2.2.2.2.1), aI G (h 14) 121 ((F_X4_strike mo ki am sk dn y1 y2 y3 y4 y5 y6 y7 q v x np n).2.2.2.2.2.2.2.1), aI G (h 15) 121 ((F_X4_strike mo ki am sk dn y1 y2 y3 y4 y5 y6 y7 q v x np n).2.2.2.2.2.2.2.2.1), aI G (h 16) 121 ((F_X4_strike mo ki am sk dn y1 y2 y3 y4 y5 y6 y7 q v x np n).2.2.2.2.2.2.2.2.2.1), aI G (h 17) 121 ((F_X4_strike mo ki am sk dn y1 y2 y3 y4 y5 y6 y7 q v x np n).2.2.2.2.2.2.2.2.2.2.1), cP (h 1) q, cS (h 4) ((F_X4_strike mo ki am sk dn y1 y2 y3 y4 y5 y6 y7 q v x np n).2.2.2.2.2.2.2.2.2.2.2)]) hW [0, 1, 2, 3, 4, 5, 6, 7, 8, 9, 10, 11, 12, 13, 14, 15, 16] rfl rfl rfl ⟨fun _ => ⟨hk0, rfl⟩, fun z => (by cases z)⟩ rfl rfl dL_does_38
set_option maxRecDepth 100000 in
theorem k_L_does1_cl72 : Cond.classLink RL 72 nIOB ∈ wsL_does := by decide +kernel
abbrev rm_L_does1 : Room := { frames := 7, cells := 1, slots := 6, locals := 103 }
set_option maxHeartbeats 4000000 in
set_option maxRecDepth 100000 in
theorem c_L_does1 (l : Launch) (hst : l.stackTraces = false) (G : GG) (h : Nat → Nat) (p : Int32) (c : Int32) (sk : (Nat → Bool)) (dn : (Nat → Bool)) (x : Int32) : CZ l G yL_does wsL_does rm_L_does1 [.ref (h 0), .int 1, .int x] [cF h p, cB h c, aZ G (h 9) 60 sk, aZ G (h 10) 60 dn] ((F_X4_isDone c sk dn x).1) (bI ((F_X4_isDone c sk dn x).2)) (-11) [cF h p, cB h c, aZ G (h 9) 60 sk, aZ G (h 10) 60 dn] := by
  refine CZ_of (own := RL) (by decide +kernel) rfl rfl (Nat.le_of_ble_eq_true rfl) ?_
  intro pP eE sS mM args below meth cC A S hK hr hlk htb hXE hXZ hW ls hl
  have hx := S.1
  have hb := S.2.1
  have hts := S.2.2.2.2
  have hl : lv_has ls 4 [(0, .ref (h 0)), (1, .int 1), (2, .int x)] := hl
  have hW : Wd G A sS.heap [cF h p, cB h c, aZ G (h 9) 60 sk, aZ G (h 10) 60 dn] sS.heap [] := hW
  refine lv_iload_n hx hb dL_does_0 rfl (lv_at hl 1 rfl) ?_
  refine lv_if_ne (tgt := 12) hx hb dL_does_1 (by decide) (fun c_1 => ?_) (fun c_1 => ?_)
  ·
    refine lv_iload_n hx hb dL_does_12 rfl (lv_at hl 1 rfl) ?_
    refine lv_iconst (v := 1) hx hb dL_does_13 (by decide) ?_
    refine lv_icmp_ne (tgt := 33) hx hb dL_does_14 (by decide) (fun c_2 => ?_) (fun c_2 => ?_)
    ·
      exact absurd c_2 (by decide)
    ·
      refine lv_aload_n hx hb dL_does_17 rfl (lv_at hl 0 rfl) ?_
      refine lv_iload_n hx hb dL_does_18 rfl (lv_at hl 2 rfl) ?_
      refine kx_callV (C := RX4) (As := [.int x]) (rest := []) (wr := []) (c_X4_isDone l hst G h p c sk dn x) S hK hW hXE hXZ gL_does_X4_isDone rfl ⟨rfl, rfl⟩ nd_X4_isDone ⟨rfl, rfl⟩ (qb := 0) (ci := 4) rfl rfl [0, 1, 2, 3] [] rfl rfl rfl rfl (by decide) rfl hl.1 rfl dL_does_19 ⟨rfl, rfl⟩ (fun H locs q9 ce E hE hW hq9 hv9 hc9 => ?_) (fun H locs hk0 hW => ?_)
      ·
        have hW : Wd G A sS.heap [cF h p, cB h c, aZ G (h 9) 60 sk, aZ G (h 10) 60 dn] H locs := hW
        obtain ⟨q, hq, hk, rfl⟩ := hE
        obtain rfl := List.mem_singleton.mp hq
        refine vx_catch (name := nIOB) S.2.2.2.1 [] ⟨0, 38, 39, 72⟩ [⟨0, 38, 43, 60⟩] htb (fun _ h => absurd h List.not_mem_nil) (by decide) (by decide) (hts _ k_L_does1_cl72) (va_Nw.use rfl hXE.2.2.1) hq9 hv9 hc9 ?_
        refine lv_astore_n (lv' := [(3, .ref q9), (0, .ref (h 0)), (1, .int 1), (2, .int x)]) hx hb dL_does_39 rfl hl (by decide) rfl (fun ls hl => ?_)
        refine lv_bipush (v := (-11)) hx hb dL_does_40 (by decide) ?_
        exact kz_iret S hr hlk hK false (wf := [cF h p, cB h c, aZ G (h 9) 60 sk, aZ G (h 10) 60 dn]) hW [0, 1, 2, 3] rfl rfl rfl ⟨fun z => (by cases z), fun _ => ⟨fun z => absurd (hk.symm.trans z) (by decide), rfl⟩⟩ rfl rfl dL_does_42
      ·
        have hW : Wd G A sS.heap [cF h p, cB h c, aZ G (h 9) 60 sk, aZ G (h 10) 60 dn] H locs := hW
        refine lv_if_eq (tgt := 29) hx hb dL_does_22 (by decide) (fun c_3 => ?_) (fun c_3 => ?_)
        ·
          refine lv_iconst (v := 0) hx hb dL_does_29 (by decide) ?_
          refine lv_goto (tgt := 38) hx hb dL_does_30 (by decide) ?_
          exact kz_iret S hr hlk hK true (wf := [cF h p, cB h c, aZ G (h 9) 60 sk, aZ G (h 10) 60 dn]) hW [0, 1, 2, 3] rfl rfl rfl ⟨fun _ => ⟨hk0, (by rw [bI0.mp c_3]; rfl)⟩, fun z => (by cases z)⟩ rfl rfl dL_does_38
        ·
          refine lv_iconst (v := 1) hx hb dL_does_25 (by decide) ?_
          refine lv_goto (tgt := 38) hx hb dL_does_26 (by decide) ?_
          exact kz_iret S hr hlk hK true (wf := [cF h p, cB h c, aZ G (h 9) 60 sk, aZ G (h 10) 60 dn]) hW [0, 1, 2, 3] rfl rfl rfl ⟨fun _ => ⟨hk0, (by rw [nbI0.mp c_3]; rfl)⟩, fun z => (by cases z)⟩ rfl rfl dL_does_38
  ·
    exact absurd c_1 (by decide)
abbrev rm_L_does2 : Room := { frames := 7, cells := 1, slots := 6, locals := 117 }
set_option maxHeartbeats 4000000 in
set_option maxRecDepth 100000 in
theorem c_L_does2 (l : Launch) (hst : l.stackTraces = false) (G : GG) (h : Nat → Nat) (q : S3) (v : S7) (y1 : (Nat → Int32)) (y2 : (Nat → Int32)) (y3 : (Nat → Int32)) (y4 : (Nat → Int32)) (y5 : (Nat → Int32)) (y6 : (Nat → Int32)) (y7 : (Nat → Int32)) (x : Int32) (np : Nat) (hp : np ≤ 120) (h0 : (F_X4_close q v y1 y2 y3 y4 y5 y6 y7 x np).1 = 0) : CZ l G yL_does wsL_does rm_L_does2 [.ref (h 0), .int 2, .int x] [cF h (nI np), cP (h 1) q, cS (h 4) v, cH h, aI G (h 11) 121 y1, aI G (h 12) 121 y2, aI G (h 13) 121 y3, aI G (h 14) 121 y4, aI G (h 15) 121 y5, aI G (h 16) 121 y6, aI G (h 17) 121 y7] ((F_X4_close q v y1 y2 y3 y4 y5 y6 y7 x np).1) ((F_X4_close q v y1 y2 y3 y4 y5 y6 y7 x np).2.1) (-13) [cF h ((F_X4_close q v y1 y2 y3 y4 y5 y6 y7 x np).2.2.1), cP (h 1) q, cS (h 4) ((F_X4_close q v y1 y2 y3 y4 y5 y6 y7 x np).2.2.2.1), cH h, aI G (h 11) 121 ((F_X4_close q v y1 y2 y3 y4 y5 y6 y7 x np).2.2.2.2.1), aI G (h 12) 121 ((F_X4_close q v y1 y2 y3 y4 y5 y6 y7 x np).2.2.2.2.2.1), aI G (h 13) 121 ((F_X4_close q v y1 y2 y3 y4 y5 y6 y7 x np).2.2.2.2.2.2.1), aI G (h 14) 121 ((F_X4_close q v y1 y2 y3 y4 y5 y6 y7 x np).2.2.2.2.2.2.2.1), aI G (h 15) 121 ((F_X4_close q v y1 y2 y3 y4 y5 y6 y7 x np).2.2.2.2.2.2.2.2.1), aI G (h 16) 121 ((F_X4_close q v y1 y2 y3 y4 y5 y6 y7 x np).2.2.2.2.2.2.2.2.2.1), aI G (h 17) 121 ((F_X4_close q v y1 y2 y3 y4 y5 y6 y7 x np).2.2.2.2.2.2.2.2.2.2)] := by
  refine CZ_of (own := RL) (by decide +kernel) rfl rfl (Nat.le_of_ble_eq_true rfl) ?_
  intro pP eE sS mM args below meth cC A S hK hr hlk htb hXE hXZ hW ls hl
  have hx := S.1
  have hb := S.2.1
  have hts := S.2.2.2.2
  have hl : lv_has ls 4 [(0, .ref (h 0)), (1, .int 2), (2, .int x)] := hl
  have hW : Wd G A sS.heap [cF h (nI np), cP (h 1) q, cS (h 4) v, cH h, aI G (h 11) 121 y1, aI G (h 12) 121 y2, aI G (h 13) 121 y3, aI G (h 14) 121 y4, aI G (h 15) 121 y5, aI G (h 16) 121 y6, aI G (h 17) 121 y7] sS.heap [] := hW
  refine lv_iload_n hx hb dL_does_0 rfl (lv_at hl 1 rfl) ?_
  refine lv_if_ne (tgt := 12) hx hb dL_does_1 (by decide) (fun c_1 => ?_) (fun c_1 => ?_)
  ·
    refine lv_iload_n hx hb dL_does_12 rfl (lv_at hl 1 rfl) ?_
    refine lv_iconst (v := 1) hx hb dL_does_13 (by decide) ?_
    refine lv_icmp_ne (tgt := 33) hx hb dL_does_14 (by decide) (fun c_2 => ?_) (fun c_2 => ?_)
    ·
      refine lv_aload_n hx hb dL_does_33 rfl (lv_at hl 0 rfl) ?_
      refine lv_iload_n hx hb dL_does_34 rfl (lv_at hl 2 rfl) ?_
      refine kx_callV (C := RX4) (As := [.int x]) (rest := []) (wr := []) (c_X4_close l hst G h q v y1 y2 y3 y4 y5 y6 y7 x np hp) S hK hW hXE hXZ gL_does_X4_close rfl ⟨rfl, rfl⟩ nd_X4_close ⟨rfl, rfl⟩ (qb := 0) (ci := 4) rfl rfl [0, 1, 2, 3, 4, 5, 6, 7, 8, 9, 10] [] rfl rfl rfl rfl (by decide) rfl hl.1 rfl dL_does_35 ⟨rfl, rfl⟩ (fun H locs q9 ce E hE hW hq9 hv9 hc9 => ?_) (fun H locs hk0 hW => ?_)
      ·
        have hW : Wd G A sS.heap [cF h (nI np), cP (h 1) q, cS (h 4) v, cH h, aI G (h 11) 121 y1, aI G (h 12) 121 y2, aI G (h 13) 121 y3, aI G (h 14) 121 y4, aI G (h 15) 121 y5, aI G (h 16) 121 y6, aI G (h 17) 121 y7] H locs := hW
        obtain ⟨q, hq, hk, rfl⟩ := hE
        rcases List.mem_cons.mp hq with rfl | hq
        ·
          exact absurd (hk.symm.trans h0) (by decide)
        ·
          obtain rfl := List.mem_singleton.mp hq
          exact absurd (hk.symm.trans h0) (by decide)
      ·
        have hW : Wd G A sS.heap [cF h ((F_X4_close q v y1 y2 y3 y4 y5 y6 y7 x np).2.2.1), cP (h 1) q, cS (h 4) ((F_X4_close q v y1 y2 y3 y4 y5 y6 y7 x np).2.2.2.1), cH h, aI G (h 11) 121 ((F_X4_close q v y1 y2 y3 y4 y5 y6 y7 x np).2.2.2.2.1), aI G (h 12) 121 ((F_X4_close q v y1 y2 y3 y4 y5 y6 y7 x np).2.2.2.2.2.1), aI G (h 13) 121 ((F_X4_close q v y1 y2 y3 y4 y5 y6 y7 x np).2.2.2.2.2.2.1), aI G (h 14) 121 ((F_X4_close q v y1 y2 y3 y4 y5 y6 y7 x np).2.2.2.2.2.2.2.1), aI G (h 15) 121 ((F_X4_close q v y1 y2 y3 y4 y5 y6 y7 x np).2.2.2.2.2.2.2.2.1), aI G (h 16) 121 ((F_X4_close q v y1 y2 y3 y4 y5 y6 y7 x np).2.2.2.2.2.2.2.2.2.1), aI G (h 17) 121 ((F_X4_close q v y1 y2 y3 y4 y5 y6 y7 x np).2.2.2.2.2.2.2.2.2.2)] H locs := hW
        exact kz_iret S hr hlk hK true (wf := [cF h ((F_X4_close q v y1 y2 y3 y4 y5 y6 y7 x np).2.2.1), cP (h 1) q, cS (h 4) ((F_X4_close q v y1 y2 y3 y4 y5 y6 y7 x np).2.2.2.1), cH h, aI G (h 11) 121 ((F_X4_close q v y1 y2 y3 y4 y5 y6 y7 x np).2.2.2.2.1), aI G (h 12) 121 ((F_X4_close q v y1 y2 y3 y4 y5 y6 y7 x np).2.2.2.2.2.1), aI G (h 13) 121 ((F_X4_close q v y1 y2 y3 y4 y5 y6 y7 x np).2.2.2.2.2.2.1), aI G (h 14) 121 ((F_X4_close q v y1 y2 y3 y4 y5 y6 y7 x np).2.2.2.2.2.2.2.1), aI G (h 15) 121 ((F_X4_close q v y1 y2 y3 y4 y5 y6 y7 x np).2.2.2.2.2.2.2.2.1), aI G (h 16) 121 ((F_X4_close q v y1 y2 y3 y4 y5 y6 y7 x np).2.2.2.2.2.2.2.2.2.1), aI G (h 17) 121 ((F_X4_close q v y1 y2 y3 y4 y5 y6 y7 x np).2.2.2.2.2.2.2.2.2.2)]) hW [0, 1, 2, 3, 4, 5, 6, 7, 8, 9, 10] rfl rfl rfl ⟨fun _ => ⟨hk0, rfl⟩, fun z => (by cases z)⟩ rfl rfl dL_does_38
    ·
      exact absurd c_2 (by decide)
  ·
    exact absurd c_1 (by decide)
