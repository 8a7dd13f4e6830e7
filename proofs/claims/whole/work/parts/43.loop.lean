/-! THE CLAIM OUT OF ONE WALK OF THE LAW'S BODY. Your part is whole_start (and what it stands on); all else here is the same for every law, but numbers. -/
def R_law : String := "FlexiblePolicyLaw"
def lw_P (b : Addr) (xs : List Int32) (args : Array Value) (s : State) : Prop := args = #[.ref b] ∧ s.IntsAt b xs ∧ xs.length ≤ 2048 ∧ (Jvm.Cond.and given_1 narrow_1).before args s = true
def lw_Q (_ : Array Value) (s : State) (o : Outcome) (t : State) : Prop := o = .returned (some (.int 1)) ∧ Framed s o t [] 1066 9796
def lw_Z (below : List Frame) (a : Array Value) (s : State) : State → Prop := fun t => ∃ o, t.status = .running ∧ Ended t below o ∧ lw_Q a s o t
/-- the law's own end, with 1 on the stack, nothing written that was there before, its room as the claim has it -/
theorem lw_ret {p : Program} {l : Launch} {e : Env} {s : State} {m : MethodId} {below : List Frame} {meth : Method} {c : Code} {b : Nat} (hx : p.tables.exec = Jvm.exec) (hb : c.code = code) (hr : meth.sig.returnType = ret) (hlocks : meth.locks = false) {pc : Nat} {H : Heap} {ls : Array Slot} (hdg : decode code pc = .ok (.ireturn, 1)) : W p l e room_1 s m #[Value.ref b] below meth c H [] 1066 9796 (lw_Z below #[Value.ref b] s) (F0 m pc ls [.int 1]) := by
  intro T hT X
  obtain ⟨fs, hret, hrun, hended, hW, hframe⟩ := X.leave (v := some (.int 1)) (hlocks := hlocks) (fun h => by rw [hr] at h; cases h)
  have hmeth' : T.vm.method? m = some meth := X.method'
  refine ⟨T.setFrames fs, ?_, .returned (some (.int 1)), hrun, hended, rfl, ⟨_, rfl⟩, hW, hframe⟩
  jvm_step X.here [X.here.top, hx, hb, hdg, hmeth', hr, ret, narrow_b1]
  (try refine ⟨rfl, ?_⟩); (try refine ⟨rfl, ?_⟩)
  first | (intro acts; rw [hret _ acts rfl rfl rfl]) | rw [hret _ _ rfl rfl rfl]
  exact Steps.refl _
/-- what holds at the law's entry: the machine, the code, the tables' words (any of lw_tbl by 'hts w (by decide +kernel)'), the script of L ints xs at the cell b, what the Statement gives of the start (any of its parts by flat_of_before) -/
def lw_At (p : Program) (s : State) (m : MethodId) (meth : Method) (c : Code) (b L : Nat) (xs : Nat → Int32) : Prop :=
  p.tables.exec = Jvm.exec ∧ c.code = code ∧ meth.sig.returnType = ret ∧ c.maxLocals = 7 ∧ s.vm.findClass R_law = some m.cls ∧ (∀ w ∈ lw_tbl, w.before #[Value.ref b] s = true) ∧ va_X b L xs s s.heap ∧ b < s.heap.size ∧ meth.locks = false ∧ (Jvm.Cond.and given_1 narrow_1).before #[Value.ref b] s = true
theorem lw_le {i L : Nat} (hL : L ≤ 2048 ∧ i ≤ 2048) (h : ¬ (nI L - 4) < nI i) : i + 4 ≤ L := by
  rw [lt32 (s32 (nI_toInt (n := L) (by omega)) k4 (by omega) (by omega)) (nI_toInt (n := i) (by omega))] at h
  omega
set_option maxHeartbeats 8000000 in
set_option maxRecDepth 100000 in
theorem law_loop {pP : Program} {l : Launch} {eE : Env} {sS : State} {mM : MethodId} {below : List Frame} {meth : Method} {cC : Code} {G : GG} {h : Nat → Nat} {b L : Nat} {xs : Nat → Int32} (X : LWX pP l sS mM #[.ref b] cC G (fun q => sS.heap.size ≤ q) b L xs) (hr : meth.sig.returnType = ret) (hlk : meth.locks = false) :
    ∀ (d t i cells slots : Nat), i = 4 * t → i ≤ L → L < i + 4 * d → cells = 25 + t → slots = 1502 + 6 * t → ∀ (np n : Nat) (q : S3) (mo ki am : N32) (sk dn : Nat → Bool) (y1 y2 y3 y4 y5 y6 y7 : N32) (v tr w5 : S7) (t5 : Int32) (dn5 : Nat → Bool) (fo : Nat → Int64), Inv np n q mo ki am sk (dn, y1, y2, y3, y4, y5, y6, y7, v) → ∀ (H : Heap) (locs : List Loc) (ls : Array Slot), Wd G (fun q => sS.heap.size ≤ q) sS.heap [cF h (nI np), cP (h 1) q, cB h (nI n), cH h, cS (h 4) v, cS (h 5) tr, aI G (h 6) 60 mo, aI G (h 7) 60 ki, aI G (h 8) 60 am, aZ G (h 9) 60 sk, aZ G (h 10) 60 dn, aI G (h 11) 121 y1, aI G (h 12) 121 y2, aI G (h 13) 121 y3, aI G (h 14) 121 y4, aI G (h 15) 121 y5, aI G (h 16) 121 y6, aI G (h 17) 121 y7, cM h (q.1, q.2.1, q.2.2, (nI np), (nI n)) w5 t5, aI G (h 19) 60 mo, aI G (h 20) 60 ki, aI G (h 21) 60 am, aZ G (h 22) 60 sk, aZ G (h 23) 60 dn5, aJ G (h 24) 1 fo] H locs → lv_has ls 7 [(0, .ref b), (1, .ref (h 0)), (2, .ref (h 18)), (3, .ref (h 24)), (4, .int (nI i))] →
    W pP l eE room_1 sS mM #[.ref b] below meth cC H locs cells slots (lw_Z below #[.ref b] sS) (F0 mM 23 ls []) := by
  intro d
  induction d with
  | zero => intros; omega
  | succ d ih =>
    intro t i cells slots ht hi hd hce hsl np n q mo ki am sk dn y1 y2 y3 y4 y5 y6 y7 v tr w5 t5 dn5 fo I H locs ls hW hl
    obtain ⟨S, hK, hXE, hXZ, hst, hX, hbl, hbA, hL⟩ := id X
    have hx := S.1
    have hb := S.2.1
    have hc : cells + 1 ≤ room_1.cells := by
      show cells + 1 ≤ 1066
      omega
    have hs : slots + 6 ≤ room_1.slots := by
      show slots + 6 ≤ 9796
      omega
    have K : i + 4 ≤ L → LWP pP l eE sS mM #[.ref b] below meth cC (lw_Z below #[.ref b] sS) G (fun q => sS.heap.size ≤ q) h b i (cells + 1) (slots + 6) := by
      intro hle
      unfold LWP
      intro np n q mo ki am sk dn y1 y2 y3 y4 y5 y6 y7 v tr w5 t5 dn5 fo I H locs ls hW hl
      refine lv_iinc (v := (nI i + 4)) (lv' := [(4, .int (nI i + 4)), (0, .ref b), (1, .ref (h 0)), (2, .ref (h 18)), (3, .ref (h 24))]) hx hb dL_law_944 hl (k := 4) rfl rfl (by decide) rfl (fun ls hl => ?_)
      refine lv_goto (tgt := 23) hx hb dL_law_947 (by decide) ?_
      rw [show (4 : Int32) = nI 4 by decide +kernel, nI_add] at hl
      exact ih (t + 1) (i + 4) (cells + 1) (slots + 6) (by omega) hle (by omega) (by omega) (by omega) np n q mo ki am sk dn y1 y2 y3 y4 y5 y6 y7 v tr w5 t5 dn5 fo I H _ ls hW (lv_sub hl [1, 2, 3, 4, 0] rfl)
    refine lv_iload hx hb dL_law_23 (lv_at hl 4 rfl) ?_
    refine lv_aload_n hx hb dL_law_25 rfl (lv_at hl 0 rfl) ?_
    refine va_slen hx hb hX hbl hbA hW.2.2.1 dL_law_26 ?_
    refine lv_iconst (v := 4) hx hb dL_law_27 (by decide) ?_
    refine lv_isub hx hb dL_law_28 ?_
    refine lv_icmp_gt (tgt := 950) hx hb dL_law_29 (by decide) (fun c_1 => ?_) (fun c_1 => ?_)
    ·
      refine va_forget (fun q hq => hW.2.2.1.2.2 q hq) ?_
      refine W.widen (k := 1066) (n := 9796) (by omega) (by omega) ?_
      refine lv_iconst (v := 1) hx hb dL_law_950 (by decide) ?_
      exact lw_ret hx hb hr hlk dL_law_951
    ·
      have hle : i + 4 ≤ L := lw_le (by omega) c_1
      have K := K hle
      refine lv_aload_n hx hb dL_law_32 rfl (lv_at hl 0 rfl) ?_
      refine lv_iload hx hb dL_law_33 (lv_at hl 4 rfl) ?_
      refine va_sld hx hb hX hbl hbA hW.2.2.1 (vp_in_nI (by omega) (by omega)) dL_law_35 ?_
      refine lv_bipush (v := 31) hx hb dL_law_36 (by decide) ?_
      refine lv_iand hx hb dL_law_38 ?_
      refine lv_topi (fun z_sw ez_sw => ?_)
      by_cases c_2 : z_sw = 0
      ·
        refine lv_tableIn (off := 97) (tgt := 136) hx hb dL_law_39 (by rw [c_2]; decide) (by rw [c_2]; decide) (by rw [c_2]; rfl) (by decide) ?_
        exact lc_begin X (by omega) hc hs K np n q mo ki am sk dn y1 y2 y3 y4 y5 y6 y7 v tr w5 t5 dn5 fo I H _ ls hW hl
      ·
        by_cases c_3 : z_sw = 1
        ·
          refine lv_tableIn (off := 177) (tgt := 216) hx hb dL_law_39 (by rw [c_3]; decide) (by rw [c_3]; decide) (by rw [c_3]; rfl) (by decide) ?_
          exact lc_tell X (by omega) hc hs K np n q mo ki am sk dn y1 y2 y3 y4 y5 y6 y7 v tr w5 t5 dn5 fo I H _ ls hW hl
        ·
          by_cases c_4 : z_sw = 2
          ·
            refine lv_tableIn (off := 264) (tgt := 303) hx hb dL_law_39 (by rw [c_4]; decide) (by rw [c_4]; decide) (by rw [c_4]; rfl) (by decide) ?_
            exact lc_strike X (by omega) hc hs K np n q mo ki am sk dn y1 y2 y3 y4 y5 y6 y7 v tr w5 t5 dn5 fo I H _ ls hW hl
          ·
            by_cases c_5 : z_sw = 3
            ·
              refine lv_tableIn (off := 320) (tgt := 359) hx hb dL_law_39 (by rw [c_5]; decide) (by rw [c_5]; decide) (by rw [c_5]; rfl) (by decide) ?_
              exact lc_isDone X (by omega) hc hs K np n q mo ki am sk dn y1 y2 y3 y4 y5 y6 y7 v tr w5 t5 dn5 fo I H _ ls hW hl
            ·
              by_cases c_6 : z_sw = 4
              ·
                refine lv_tableIn (off := 383) (tgt := 422) hx hb dL_law_39 (by rw [c_6]; decide) (by rw [c_6]; decide) (by rw [c_6]; rfl) (by decide) ?_
                exact lc_acts X (by omega) hc hs K np n q mo ki am sk dn y1 y2 y3 y4 y5 y6 y7 v tr w5 t5 dn5 fo I H _ ls hW hl
              ·
                by_cases c_7 : z_sw = 5
                ·
                  refine lv_tableIn (off := 396) (tgt := 435) hx hb dL_law_39 (by rw [c_7]; decide) (by rw [c_7]; decide) (by rw [c_7]; rfl) (by decide) ?_
                  exact lc_close X (by omega) hc hs K np n q mo ki am sk dn y1 y2 y3 y4 y5 y6 y7 v tr w5 t5 dn5 fo I H _ ls hW hl
                ·
                  by_cases c_8 : z_sw = 6
                  ·
                    refine lv_tableIn (off := 452) (tgt := 491) hx hb dL_law_39 (by rw [c_8]; decide) (by rw [c_8]; decide) (by rw [c_8]; rfl) (by decide) ?_
                    exact lc_month X (by omega) hc hs K np n q mo ki am sk dn y1 y2 y3 y4 y5 y6 y7 v tr w5 t5 dn5 fo I H _ ls hW hl
                  ·
                    by_cases c_9 : z_sw = 7
                    ·
                      refine lv_tableIn (off := 465) (tgt := 504) hx hb dL_law_39 (by rw [c_9]; decide) (by rw [c_9]; decide) (by rw [c_9]; rfl) (by decide) ?_
                      exact lc_state X (by omega) hc hs K np n q mo ki am sk dn y1 y2 y3 y4 y5 y6 y7 v tr w5 t5 dn5 fo I H _ ls hW hl
                    ·
                      by_cases c_10 : z_sw = 8
                      ·
                        refine lv_tableIn (off := 478) (tgt := 517) hx hb dL_law_39 (by rw [c_10]; decide) (by rw [c_10]; decide) (by rw [c_10]; rfl) (by decide) ?_
                        exact lc_account X (by omega) hc hs K np n q mo ki am sk dn y1 y2 y3 y4 y5 y6 y7 v tr w5 t5 dn5 fo I H _ ls hW hl
                      ·
                        by_cases c_11 : z_sw = 9
                        ·
                          refine lv_tableIn (off := 491) (tgt := 530) hx hb dL_law_39 (by rw [c_11]; decide) (by rw [c_11]; decide) (by rw [c_11]; rfl) (by decide) ?_
                          exact lc_loan X (by omega) hc hs K np n q mo ki am sk dn y1 y2 y3 y4 y5 y6 y7 v tr w5 t5 dn5 fo I H _ ls hW hl
                        ·
                          by_cases c_12 : z_sw = 10
                          ·
                            refine lv_tableIn (off := 504) (tgt := 543) hx hb dL_law_39 (by rw [c_12]; decide) (by rw [c_12]; decide) (by rw [c_12]; rfl) (by decide) ?_
                            exact lc_arrears X (by omega) hc hs K np n q mo ki am sk dn y1 y2 y3 y4 y5 y6 y7 v tr w5 t5 dn5 fo I H _ ls hW hl
                          ·
                            by_cases c_13 : z_sw = 11
                            ·
                              refine lv_tableIn (off := 517) (tgt := 556) hx hb dL_law_39 (by rw [c_13]; decide) (by rw [c_13]; decide) (by rw [c_13]; rfl) (by decide) ?_
                              exact lc_deathSum X (by omega) hc hs K np n q mo ki am sk dn y1 y2 y3 y4 y5 y6 y7 v tr w5 t5 dn5 fo I H _ ls hW hl
                            ·
                              by_cases c_14 : z_sw = 12
                              ·
                                refine lv_tableIn (off := 530) (tgt := 569) hx hb dL_law_39 (by rw [c_14]; decide) (by rw [c_14]; decide) (by rw [c_14]; rfl) (by decide) ?_
                                exact lc_paid X (by omega) hc hs K np n q mo ki am sk dn y1 y2 y3 y4 y5 y6 y7 v tr w5 t5 dn5 fo I H _ ls hW hl
                              ·
                                by_cases c_15 : z_sw = 13
                                ·
                                  refine lv_tableIn (off := 543) (tgt := 582) hx hb dL_law_39 (by rw [c_15]; decide) (by rw [c_15]; decide) (by rw [c_15]; rfl) (by decide) ?_
                                  exact lc_charge X (by omega) hc hs K np n q mo ki am sk dn y1 y2 y3 y4 y5 y6 y7 v tr w5 t5 dn5 fo I H _ ls hW hl
                                ·
                                  by_cases c_16 : z_sw = 14
                                  ·
                                    refine lv_tableIn (off := 556) (tgt := 595) hx hb dL_law_39 (by rw [c_16]; decide) (by rw [c_16]; decide) (by rw [c_16]; rfl) (by decide) ?_
                                    exact lc_grace X (by omega) hc hs K np n q mo ki am sk dn y1 y2 y3 y4 y5 y6 y7 v tr w5 t5 dn5 fo I H _ ls hW hl
                                  ·
                                    by_cases c_17 : z_sw = 15
                                    ·
                                      refine lv_tableIn (off := 569) (tgt := 608) hx hb dL_law_39 (by rw [c_17]; decide) (by rw [c_17]; decide) (by rw [c_17]; rfl) (by decide) ?_
                                      exact lc_corridor X (by omega) hc hs K np n q mo ki am sk dn y1 y2 y3 y4 y5 y6 y7 v tr w5 t5 dn5 fo I H _ ls hW hl
                                    ·
                                      by_cases c_18 : z_sw = 16
                                      ·
                                        refine lv_tableIn (off := 625) (tgt := 664) hx hb dL_law_39 (by rw [c_18]; decide) (by rw [c_18]; decide) (by rw [c_18]; rfl) (by decide) ?_
                                        exact lc_accountAt X (by omega) hc hs K np n q mo ki am sk dn y1 y2 y3 y4 y5 y6 y7 v tr w5 t5 dn5 fo I H _ ls hW hl
                                      ·
                                        by_cases c_19 : z_sw = 17
                                        ·
                                          refine lv_tableIn (off := 681) (tgt := 720) hx hb dL_law_39 (by rw [c_19]; decide) (by rw [c_19]; decide) (by rw [c_19]; rfl) (by decide) ?_
                                          exact lc_accountFromStart X (by omega) hc hs K np n q mo ki am sk dn y1 y2 y3 y4 y5 y6 y7 v tr w5 t5 dn5 fo I H _ ls hW hl
                                        ·
                                          by_cases c_20 : z_sw = 18
                                          ·
                                            refine lv_tableIn (off := 737) (tgt := 776) hx hb dL_law_39 (by rw [c_20]; decide) (by rw [c_20]; decide) (by rw [c_20]; rfl) (by decide) ?_
                                            exact lc_stateAt X (by omega) hc hs K np n q mo ki am sk dn y1 y2 y3 y4 y5 y6 y7 v tr w5 t5 dn5 fo I H _ ls hW hl
                                          ·
                                            by_cases c_21 : z_sw = 19
                                            ·
                                              refine lv_tableIn (off := 793) (tgt := 832) hx hb dL_law_39 (by rw [c_21]; decide) (by rw [c_21]; decide) (by rw [c_21]; rfl) (by decide) ?_
                                              exact lc_wouldLapse X (by omega) hc hs K np n q mo ki am sk dn y1 y2 y3 y4 y5 y6 y7 v tr w5 t5 dn5 fo I H _ ls hW hl
                                            ·
                                              by_cases c_22 : z_sw = 20
                                              ·
                                                refine lv_tableIn (off := 849) (tgt := 888) hx hb dL_law_39 (by rw [c_22]; decide) (by rw [c_22]; decide) (by rw [c_22]; rfl) (by decide) ?_
                                                exact lc_needed X (by omega) hc hs K np n q mo ki am sk dn y1 y2 y3 y4 y5 y6 y7 v tr w5 t5 dn5 fo I H _ ls hW hl
                                              ·
                                                refine lv_tableOut (tgt := 944) hx hb dL_law_39 (sw_out20 c_2 c_3 c_4 c_5 c_6 c_7 c_8 c_9 c_10 c_11 c_12 c_13 c_14 c_15 c_16 c_17 c_18 c_19 c_20 c_21 c_22) (by decide) ?_
                                                exact W.widen (Nat.le_add_right cells 1) (Nat.le_add_right slots 6) (K np n q mo ki am sk dn y1 y2 y3 y4 y5 y6 y7 v tr w5 t5 dn5 fo I H _ ls hW hl)
