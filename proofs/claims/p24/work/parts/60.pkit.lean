section PKIT
abbrev QP (G : GG) (A : Nat → Prop) (wc' : S7 → va_W) : Array Value → State → Outcome → State → Prop := va_Qi (fun (r' : Int32) (_ : S7) => r' = 1) (fun (u : S7) (t : State) => va_P G.1 vwCl (wc' u) t.heap ∧ Kn G t ∧ va_D A (wc' u)) A
/-- a method that answers true, makes at most mc cells of ms slots, and leaves the cells wc' of some standing -/
def CP (l : Launch) (G : GG) (y : MethodName) (wsy : List Cond) (rm : Room) (av : List Value) (wc : va_W) (wc' : S7 → va_W) (mc ms : Nat) : Prop :=
  ∀ sz : Nat, vx_Met l y wsy rm (va_Pc av (KPreX G wc sz)) (QP G (va_A wc sz) wc') XF mc ms (va_A wc sz)
theorem CP_of {l : Launch} {G : GG} {y : MethodName} {ws ws' : List Cond} {rm : Room} {av : List Value} {wc : va_W} {wc' : S7 → va_W} {mc ms : Nat} {cc : ByteArray} {maxL : Nat} {ret : Option FieldType} {own : String}
    (hy : plainName y.cls = true) (hw : ws = Cond.code y cc maxL ret :: ws') (hown : y.cls = own) (hL : (lg_sl av).length ≤ maxL)
    (body : ∀ (p : Program) (e : Env) (s : State) (m : MethodId) (args : Array Value) (below : List Frame) (meth : Method) (c : Code) (A : Nat → Prop), CallFix p m c cc maxL s args ws own → Kn G s → meth.sig.returnType = ret → meth.locks = false → XE s → XZ A s s.heap → Wd G A s.heap wc s.heap [] →
      ∀ ls : Array Slot, lv_has ls maxL (lv_args 0 av) → W p l e rm s m args below meth c s.heap [] 0 0 (vx_MQ below (QP G A wc') XF args s mc ms A) (F0 m 0 ls [])) : CP l G y ws rm av wc wc' mc ms := by
  intro sz
  refine vx_ofW (cc := cc) (maxL := maxL) (ret := ret) hy hw ?_
  intro p e s m args below meth c s₁ B hml hex hv
  obtain ⟨rfl, ⟨hsz, hP, hK, hD0⟩, hXE, hXZ⟩ := hv
  subst hsz
  have hts := atoms_spec (ws := ws) B.pre
  have ho : s.vm.findClass own = some m.cls := by rw [← hown]; exact findClass_of_methodNamed B.named
  rw [lg_entry_eq]
  exact body p e s m _ below meth c (va_A wc s.heap.size) ⟨B.exec, B.bytes, hml, ho, hts⟩ hK B.returns B.notSynchronized hXE hXZ ⟨hP, hD0.self, va_S.rf, fun q h => Or.inr h⟩ _ (lv_entry av hL)
section PROWS
variable {p : Program} {l : Launch} {e : Env} {R : Room} {s : State} {m : MethodId} {args : Array Value} {below : List Frame} {meth : Method} {c : Code} {H : Heap} {locs : List Loc} {cells slots : Nat} {Q : State → Prop}
variable {cc : ByteArray} {nL : Nat} {Ts : List Cond} {own : String} {pc : Nat} {ls : Array Slot} {rest : List Value} {G : GG} {A : Nat → Prop} {a : Nat} {ws : va_W} {H0 : Heap}
theorem kp_ret (S : CallFix p m c cc nL s args Ts own) (hr : meth.sig.returnType = some .boolean) (hlk : meth.locks = false) (hK : Kn G s) (hW : Wd G A s.heap ws H locs) (is : List Nat) {wc' : S7 → va_W} (u : S7) (hn : va_nd is = true) (hs : is.map (fun i => ws[i]?) = (wc' u).map some) {mc ms : Nat} (h1 : cells ≤ mc) (h2 : slots ≤ ms) (hdg : decode cc pc = .ok (.ireturn, 1)) :
    W p l e R s m args below meth c H locs cells slots (vx_MQ below (QP G A wc') XF args s mc ms A) (F0 m pc ls [.int 1]) := by
  have h3 := hW.re is hn hs
  refine W.widen h1 h2 (vx_ret ?_)
  exact W.zret S.1 S.2.1 hr (nar_bI true) (fun t ht hWm => ⟨⟨1, u, rfl, rfl, by rw [ht]; exact h3.1, va_K.moved hWm.alike hK, h3.2.1⟩, h3.2.2.1.F ht⟩) h3.2.2.1.2.2 hdg hlk
theorem kp_callS {index maxL mc ms : Nat} {y : MethodName} {bytes : ByteArray} {ret : Option FieldType} {wsy wsy' : List Cond} {rm : Room} {As st : List Value} {wc wr : va_W} {wc' : S7 → va_W}
    (hC : CP l G y wsy rm As wc wc' mc ms) (S : CallFix p m c cc nL s args Ts own) (hK : Kn G s) (hW : Wd G A s.heap ws H locs) (hXE : XE s) (hXZ : XZ A s s.heap) (hG : GoodIn Ts (va_wsS own index y wsy)) (hwy : wsy = Cond.code y bytes maxL ret :: wsy') (hrm : rm.cells = mc ∧ rm.slots = ms)
    (hd : y.cls ≠ "java/lang/invoke/MethodHandle" ∧ y.cls ≠ "java/lang/invoke/VarHandle" ∧ (parseMethodDescriptor y.desc).map (fun d => d.parameters.length) = some As.length) (hR : Nat.ble (rm.frames + 1) R.frames = true ∧ Nat.ble (8 + (maxL + 11) + rm.locals) R.locals = true)
    (isC isR : List Nat) (h1 : isC.map (fun i => ws[i]?) = wc.map some) (h2 : isR.map (fun i => ws[i]?) = wr.map some) (hnC : va_nd isC = true) (hnR : va_nd isR = true) (hdis : ∀ i ∈ isR, i ∉ isC)
    (hst : st = As.reverse ++ rest) (hsl : ls.size = nL) (hro : Nat.ble ((rest.map fun v => v.category).sum) 8 = true) (hdg : decode cc pc = .ok (.invokestatic index, 3)) (hf : cells + mc ≤ R.cells ∧ slots + ms ≤ R.slots)
    (kk : ∀ (u : S7) (H1 : Heap) (locs1 : List Loc), Wd G A s.heap (wr ++ wc' u) H1 locs1 → W p l e R s m args below meth c H1 locs1 (cells + mc) (slots + ms) Q (F0 m (pc + 3) ls (.int 1 :: rest))) : W p l e R s m args below meth c H locs cells slots Q (F0 m pc ls st) := by
  obtain ⟨hPc, hDc, hFc⟩ := hW.cut isC h1 hnC
  subst hst
  refine vx_calli (SX := Unit) (px := fun _ => True) (BX := fun _ _ _ => False) (AX := va_A wc H.size) (vx_keepX (vx_runS (As := As) (rest := rest) S (hC H.size) (va_cwS As.length S.2.2.2.2 hG hwy hrm.1 hrm.2 hd ⟨Nat.le_of_ble_eq_true hR.1, Nat.le_of_ble_eq_true hR.2⟩) ⟨kpreX_blind, fun U hU hWm => ⟨rfl, ⟨by rw [hU], by rw [hU]; exact hPc, va_K.moved hWm.alike hK, hDc⟩, hXE.warm hWm, by rw [hU]; exact XZ.at hW hXZ hFc hWm⟩⟩ rfl rfl hsl rfl (lv_room (Nat.le_of_ble_eq_true hro)) hdg hf)) hW.2.2.1 (fun q _ h => hFc q h) hFc (fun q _ h => hFc q h) (fun E ce q9 u t H1 locs1 ht hvm hw hB hz1 hk1 hS hq9 hv9 hc9 => hB.elim) (fun r' u t H1 locs1 ht hvm hw hB hz1 hk1 hS => ?_)
  obtain ⟨hP1, hK1, hD1⟩ := hB
  rw [ht] at hP1
  rw [hw]
  exact kk u H1 locs1 (hW.join isC isR h1 h2 hnR hdis hFc hk1 hS hP1 hD1)
end PROWS
theorem irm_nI {a : Nat} {D : Int32} (d : Nat) (hD : D = nI d) (ha : a < 2 ^ 31) (h0 : 0 < d) (hd : d < 2 ^ 31) : irm (nI a) D = nI (a % d) := by
  subst hD
  exact pk_rem ha h0 hd
theorem idv_nI {a : Nat} {D : Int32} (d : Nat) (hD : D = nI d) (ha : a < 2 ^ 31) (h0 : 0 < d) (hd : d < 2 ^ 31) : nI a / D = nI (a / d) := by
  subst hD
  exact pk_div ha h0 hd
theorem add_nI {b : Nat} {D : Int32} (d : Nat) (hD : D = nI d) : D + nI b = nI (d + b) := by
  subst hD
  exact nI_add d b
theorem sub1_nI {p : Nat} (h : 1 ≤ p) : nI p - 1 = nI (p - 1) := by
  rw [show (1 : Int32) = nI 1 by decide +kernel]
  exact pk_sub h
end PKIT
