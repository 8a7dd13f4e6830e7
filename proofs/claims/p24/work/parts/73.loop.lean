/-! THE CLAIM OUT OF ONE WALK OF THE LAW'S BODY. Your part is whole_start (and what it stands on); all else here is the same for every law, but numbers. -/
def R_law : String := "FlexiblePolicyLaw"
def lw_P (b : Addr) (xs : List Int32) (args : Array Value) (s : State) : Prop := args = #[.ref b] ∧ s.IntsAt b xs ∧ xs.length ≤ 260 ∧ (Jvm.Cond.and given_1 narrow_1).before args s = true
def lw_Q (_ : Array Value) (s : State) (o : Outcome) (t : State) : Prop := o = .returned (some (.int 1)) ∧ Framed s o t [] 600130 7301080
def lw_Z (below : List Frame) (a : Array Value) (s : State) : State → Prop := fun t => ∃ o, t.status = .running ∧ Ended t below o ∧ lw_Q a s o t
/-- the law's own end, with 1 on the stack, nothing written that was there before, its room as the claim has it -/
theorem lw_ret {p : Program} {l : Launch} {e : Env} {s : State} {m : MethodId} {below : List Frame} {meth : Method} {c : Code} {b : Nat} (hx : p.tables.exec = Jvm.exec) (hb : c.code = code) (hr : meth.sig.returnType = ret) (hlocks : meth.locks = false) {pc : Nat} {H : Heap} {ls : Array Slot} (hdg : decode code pc = .ok (.ireturn, 1)) : W p l e room_1 s m #[Value.ref b] below meth c H [] 600130 7301080 (lw_Z below #[Value.ref b] s) (F0 m pc ls [.int 1]) := by
  intro T hT X
  obtain ⟨fs, hret, hrun, hended, hW, hframe⟩ := X.leave (v := some (.int 1)) (hlocks := hlocks) (fun h => by rw [hr] at h; cases h)
  have hmeth' : T.vm.method? m = some meth := X.method'
  refine ⟨T.setFrames fs, ?_, .returned (some (.int 1)), hrun, hended, rfl, ⟨_, rfl⟩, hW, hframe⟩
  jvm_step X.here [X.here.top, hx, hb, hdg, hmeth', hr, ret, narrow_b1]
  (try refine ⟨rfl, ?_⟩); (try refine ⟨rfl, ?_⟩)
  first | (intro acts; rw [hret _ acts rfl rfl rfl]) | rw [hret _ _ rfl rfl rfl]
  exact Steps.refl _
/-- what holds at the law's entry: the machine, the code, the tables' words (any of lw_tbl by 'hts w (by decide +kernel)'), the script of L ints xs at the cell b, what the Statement gives of the start (any of its parts by flat_of_before) -/
def lw_At (p : Program) (s : State) (m : MethodId) (meth : Method) (c : Code) (b L : Nat) (xs : Nat → Int32) : Prop :=
  p.tables.exec = Jvm.exec ∧ c.code = code ∧ meth.sig.returnType = ret ∧ c.maxLocals = 23 ∧ s.vm.findClass R_law = some m.cls ∧ (∀ w ∈ lw_tbl, w.before #[Value.ref b] s = true) ∧ va_X b L xs s s.heap ∧ b < s.heap.size ∧ meth.locks = false ∧ (Jvm.Cond.and given_1 narrow_1).before #[Value.ref b] s = true
set_option maxRecDepth 100000 in
theorem k_L_law_c135 : Cond.constant RL 135 (43003) ∈ wsL_law := by decide +kernel
set_option maxRecDepth 100000 in
theorem k_L_law_c134 : Cond.constant RL 134 (2147483647) ∈ wsL_law := by decide +kernel
set_option maxHeartbeats 8000000 in
set_option maxRecDepth 100000 in
theorem law_loop {pP : Program} {l : Launch} {eE : Env} {sS : State} {mM : MethodId} {below : List Frame} {meth : Method} {cC : Code} {G : GG} {h : Nat → Nat} {b L : Nat} {xs : Nat → Int32} (X : LWX pP l sS mM #[.ref b] cC G (fun q => sS.heap.size ≤ q) b L xs) (hr : meth.sig.returnType = ret) (hlk : meth.locks = false) :
    ∀ (d t cells slots : Nat), t + d = 80 → cells = 300 + 193 * t → slots = 5000 + 1162 * t → LHd pP l eE sS mM #[.ref b] below meth cC (lw_Z below #[.ref b] sS) G (fun q => sS.heap.size ≤ q) h b t cells slots := by
  intro d
  induction d with
  | zero =>
    intro t cells slots htd hce hsl
    unfold LHd
    intro np n q mo ki am sk dn y1 y2 y3 y4 y5 y6 y7 v tr qf af mf df sf cf lf rf gf tf w I L9 hnp H locs ls hW hl
    obtain ⟨S, hK, hXE, hXZ, hst, hX, hbl, hbA, hL⟩ := id X
    have hx := S.1
    have hb := S.2.1
    have hc : 80 ≤ nI t := by rw [show (80 : Int32) = nI 80 by decide +kernel]; exact nI_le (by omega) (by omega)
    refine lv_iload hx hb dL_law_118 (lv_at hl 0 rfl) ?_
    refine lv_bipush (v := 80) hx hb dL_law_120 (by decide) ?_
    refine lv_icmp_ge (tgt := 783) hx hb dL_law_122 (by decide) (fun c_1 => ?_) (fun c_1 => ?_)
    ·
      refine va_forget (fun q hq => hW.2.2.1.2.2 q hq) ?_
      refine W.widen (k := 600130) (n := 7301080) (by omega) (by omega) ?_
      refine lv_iload hx hb dL_law_783 (lv_at hl 1 rfl) ?_
      exact lw_ret hx hb hr hlk dL_law_785
    ·
      exact absurd hc c_1
  | succ d ih =>
    intro t cells slots htd hce hsl
    have K := ih (t + 1) (cells + 1 + 192) (slots + 6 + 1156) (by omega) (by omega) (by omega)
    have ht : t < 80 := by omega
    have hc4 : cells + 400 ≤ 600130 := by omega
    have hs4 : slots + 3000 ≤ 7301080 := by omega
    unfold LHd
    intro np n q mo ki am sk dn y1 y2 y3 y4 y5 y6 y7 v tr qf af mf df sf cf lf rf gf tf w I L9 hnp H locs ls hW hl
    obtain ⟨S, hK, hXE, hXZ, hst, hX, hbl, hbA, hL⟩ := id X
    have hx := S.1
    have hb := S.2.1
    have hc : ¬ 80 ≤ nI t := by rw [show (80 : Int32) = nI 80 by decide +kernel]; exact nI_ge (by omega) (by omega)
    refine lv_iload hx hb dL_law_118 (lv_at hl 0 rfl) ?_
    refine lv_bipush (v := 80) hx hb dL_law_120 (by decide) ?_
    refine lv_icmp_ge (tgt := 783) hx hb dL_law_122 (by decide) (fun c_1 => ?_) (fun c_1 => ?_)
    ·
      exact absurd c_1 hc
    ·
      refine lv_iload hx hb dL_law_125 (lv_at hl 1 rfl) ?_
      refine lv_if_eq (tgt := 783) hx hb dL_law_127 (by decide) (fun c_2 => ?_) (fun c_2 => ?_)
      ·
        exact absurd c_2 (by decide)
      ·
        refine lv_iload hx hb dL_law_130 (lv_at hl 0 rfl) ?_
        refine lv_aload_n hx hb dL_law_132 rfl (lv_at hl 2 rfl) ?_
        refine va_slen hx hb hX hbl hbA hW.2.2.1 dL_law_133 ?_
        refine lv_icmp_ge (tgt := 147) hx hb dL_law_134 (by decide) (fun c_3 => ?_) (fun c_3 => ?_)
        ·
          refine k_ldc S k_L_law_c135 dL_law_147 ?_
          refine lv_iload hx hb dL_law_149 (lv_at hl 0 rfl) ?_
          refine lv_imul hx hb dL_law_151 ?_
          refine lv_iload hx hb dL_law_152 (lv_at hl 0 rfl) ?_
          refine lv_imul hx hb dL_law_154 ?_
          refine lv_sipush (v := 9011) hx hb dL_law_155 (by decide) ?_
          refine lv_iload hx hb dL_law_158 (lv_at hl 0 rfl) ?_
          refine lv_imul hx hb dL_law_160 ?_
          refine lv_iadd hx hb dL_law_161 ?_
          refine lv_bipush (v := 97) hx hb dL_law_162 (by decide) ?_
          refine lv_iadd hx hb dL_law_164 ?_
          refine k_ldc S k_L_law_c134 dL_law_165 ?_
          refine lv_iand hx hb dL_law_167 ?_
          obtain ⟨X9, hX9, eX9⟩ := pk_andE ((((43003 * nI t) * nI t) + (9011 * nI t)) + 97) (m := 2147483647) 31 (by decide +kernel)
          refine W.eq (g2 := F0 mM 168 ls [.int (nI X9)]) (by rw [eX9]) ?_
          exact ldeed X hX9 ht hc4 hs4 K np n q mo ki am sk dn y1 y2 y3 y4 y5 y6 y7 v tr qf af mf df sf cf lf rf gf tf w I L9 hnp H _ ls hW (lv_sub hl [0, 1, 2, 3, 4, 5, 6, 7, 8, 9, 10, 11, 12, 13, 14, 15] rfl)
        ·
          refine lv_aload_n hx hb dL_law_137 rfl (lv_at hl 2 rfl) ?_
          refine lv_iload hx hb dL_law_138 (lv_at hl 0 rfl) ?_
          refine va_sld hx hb hX hbl hbA hW.2.2.1 (vp_in_nI (nle_lt (by omega) (by omega) c_3) (by omega)) dL_law_140 ?_
          refine k_ldc S k_L_law_c134 dL_law_141 ?_
          refine lv_iand hx hb dL_law_143 ?_
          refine lv_goto (tgt := 168) hx hb dL_law_144 (by decide) ?_
          obtain ⟨X9, hX9, eX9⟩ := pk_andE (xs (nI t).toNatClampNeg) (m := 2147483647) 31 (by decide +kernel)
          refine W.eq (g2 := F0 mM 168 ls [.int (nI X9)]) (by rw [eX9]) ?_
          exact ldeed X hX9 ht hc4 hs4 K np n q mo ki am sk dn y1 y2 y3 y4 y5 y6 y7 v tr qf af mf df sf cf lf rf gf tf w I L9 hnp H _ ls hW (lv_sub hl [0, 1, 2, 3, 4, 5, 6, 7, 8, 9, 10, 11, 12, 13, 14, 15] rfl)
