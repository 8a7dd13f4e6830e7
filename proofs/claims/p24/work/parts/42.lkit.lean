section LKIT2
/-- a method that makes mc cells of ms slots and keeps none of them -/
def CM (l : Launch) (G : GG) (y : MethodName) (wsy : List Cond) (rm : Room) (av : List Value) (wc : va_W) (r : Int32) (wc' : va_W) (mc ms : Nat) : Prop :=
  ∀ sz : Nat, Met l y wsy rm (va_Pc av (KPre G wc sz)) (QI G (va_A wc sz) r wc') mc ms (va_A wc sz)
theorem CM_of {l : Launch} {G : GG} {y : MethodName} {ws ws' : List Cond} {rm : Room} {av : List Value} {wc wc' : va_W} {r : Int32} {mc ms : Nat} {cc : ByteArray} {maxL : Nat} {ret : Option FieldType} {own : String}
    (hy : plainName y.cls = true) (hw : ws = Cond.code y cc maxL ret :: ws') (hown : y.cls = own) (hL : (lg_sl av).length ≤ maxL)
    (body : ∀ (p : Program) (e : Env) (s : State) (m : MethodId) (args : Array Value) (below : List Frame) (meth : Method) (c : Code) (A : Nat → Prop), CallFix p m c cc maxL s args ws own → Kn G s → meth.sig.returnType = ret → meth.locks = false → meth.name = y.name → Wd G A s.heap wc s.heap [] →
      ∀ ls : Array Slot, lv_has ls maxL (lv_args 0 av) → W p l e rm s m args below meth c s.heap [] 0 0 (MQ below (QI G A r wc') args s mc ms A) (F0 m 0 ls [])) : CM l G y ws rm av wc r wc' mc ms :=
  kb_of (Qc := fun A => QI G A r wc') hy hw hown hL body
section LROWS
variable {p : Program} {l : Launch} {e : Env} {R : Room} {s : State} {m : MethodId} {args : Array Value} {below : List Frame} {meth : Method} {c : Code} {H : Heap} {locs : List Loc} {cells slots : Nat} {Q : State → Prop}
variable {cc : ByteArray} {nL : Nat} {Ts : List Cond} {own : String} {pc : Nat} {ls : Array Slot} {rest : List Value} {G : GG} {A : Nat → Prop} {a : Nat} {ws : va_W} {H0 : Heap}
theorem k_callSm {index maxL mc ms : Nat} {y : MethodName} {bytes : ByteArray} {ret : Option FieldType} {wsy wsy' : List Cond} {rm : Room} {As st : List Value} {wc wc' wr : va_W} {r : Int32} (hC : CM l G y wsy rm As wc r wc' mc ms) (S : CallFix p m c cc nL s args Ts own) (hK : Kn G s) (hW : Wd G A H0 ws H locs) (hG : GoodIn Ts (va_wsS own index y wsy)) (hwy : wsy = Cond.code y bytes maxL ret :: wsy') (hrm : rm.cells = mc ∧ rm.slots = ms)
    (hd : y.cls ≠ "java/lang/invoke/MethodHandle" ∧ y.cls ≠ "java/lang/invoke/VarHandle" ∧ (parseMethodDescriptor y.desc).map (fun d => d.parameters.length) = some As.length) (hR : Nat.ble (rm.frames + 1) R.frames = true ∧ Nat.ble (8 + (maxL + 11) + rm.locals) R.locals = true)
    (isC isR : List Nat) (h1 : isC.map (fun i => ws[i]?) = wc.map some) (h2 : isR.map (fun i => ws[i]?) = wr.map some) (hnC : va_nd isC = true) (hnR : va_nd isR = true) (hdis : ∀ i ∈ isR, i ∉ isC)
    (hst : st = As.reverse ++ rest) (hsl : ls.size = nL) (hro : Nat.ble ((rest.map fun v => v.category).sum) 8 = true) (hdg : decode cc pc = .ok (.invokestatic index, 3)) (hf : cells + mc ≤ R.cells ∧ slots + ms ≤ R.slots)
    (kk : ∀ (H1 : Heap) (locs1 : List Loc), Wd G A H0 (wr ++ wc') H1 locs1 → W p l e R s m args below meth c H1 locs1 (cells + mc) (slots + ms) Q (F0 m (pc + 3) ls (.int r :: rest))) : W p l e R s m args below meth c H locs cells slots Q (F0 m pc ls st) := by
  obtain ⟨hPc, hDc, hFc⟩ := hW.cut isC h1 hnC
  subst hst
  refine va_calli (va_runS (As := As) (rest := rest) S (hC H.size) (va_cwS As.length S.2.2.2.2 hG hwy hrm.1 hrm.2 hd ⟨Nat.le_of_ble_eq_true hR.1, Nat.le_of_ble_eq_true hR.2⟩) ⟨kpre_blind, fun U hU hWm => ⟨rfl, by rw [hU], by rw [hU]; exact hPc, va_K.moved hWm.alike hK, hDc⟩⟩ rfl rfl hsl rfl (lv_room (Nat.le_of_ble_eq_true hro)) hdg hf) hW.2.2.1 (fun q _ h => hFc q h) hFc (fun r' u t H1 locs1 ht hvm hw hB hz1 hk1 hS => ?_)
  obtain ⟨hP1, hK1, hD1⟩ := hB
  rw [ht] at hP1
  rw [hw]
  exact kk H1 locs1 (hW.join isC isR h1 h2 hnR hdis hFc hk1 hS hP1 hD1)
/-- a method of the class that might throw, but doesn't here -/
theorem kx_call0 {C : String} {T : u_T} {N ci qb index maxL : Nat} {y : MethodName} {bytes : ByteArray} {ret : Option FieldType} {wsy wsy' : List Cond} {rm : Room} {As st : List Value} {b : Nat} {wc wc' wr : va_W} {fs : List Value} {k r : Int32} {EL : List (Int32 × String)}
    (hC : CX l G y wsy rm (.ref b :: As) wc k r wc' EL) (hk0 : k = 0) (hEL : ∀ q ∈ EL, ¬ q.1 = 0) (S : CallFix p m c cc nL s args Ts own) (hK : Kn G s) (hW : Wd G A s.heap ws H locs) (hXE : XE s) (hXZ : XZ A s s.heap) (hG : GoodIn Ts (wsV own index C y wsy)) (hwy : wsy = Cond.code y bytes maxL ret :: wsy') (hrm : rm.cells = 1 ∧ rm.slots = 6)
    (hd : y.cls = C ∧ y.cls ≠ "java/lang/invoke/MethodHandle" ∧ y.cls ≠ "java/lang/invoke/VarHandle" ∧ (parseMethodDescriptor y.desc).map (fun d => d.parameters.length) = some As.length) (hR : Nat.ble (rm.frames + 1) R.frames = true ∧ Nat.ble (8 + (maxL + 11) + rm.locals) R.locals = true)
    (hq : ws[qb]? = some (b, .inr (ci, fs))) (hci : vwCl[ci]? = some (C, T, N)) (isC isR : List Nat) (h1 : isC.map (fun i => ws[i]?) = wc.map some) (h2 : isR.map (fun i => ws[i]?) = wr.map some) (hnC : va_nd isC = true) (hnR : va_nd isR = true) (hdis : ∀ i ∈ isR, i ∉ isC)
    (hst : st = As.reverse ++ .ref b :: rest) (hsl : ls.size = nL) (hro : Nat.ble ((rest.map fun v => v.category).sum) 8 = true) (hdg : decode cc pc = .ok (.invokevirtual index, 3)) (hf : cells + 1 ≤ R.cells ∧ slots + 6 ≤ R.slots)
    (kk : ∀ (H1 : Heap) (locs1 : List Loc), Wd G A s.heap (wr ++ wc') H1 locs1 → W p l e R s m args below meth c H1 locs1 (cells + 1) (slots + 6) Q (F0 m (pc + 3) ls (.int r :: rest))) : W p l e R s m args below meth c H locs cells slots Q (F0 m pc ls st) :=
  kx_callV hC S hK hW hXE hXZ hG hwy hrm hd hR hq hci isC isR h1 h2 hnC hnR hdis hst hsl hro hdg ⟨Nat.ble_eq_true_of_le hf.1, Nat.ble_eq_true_of_le hf.2⟩
    (fun H1 locs1 q9 ce E hE hW1 h9 hv9 hc9 => by
      obtain ⟨q, hq, hk, -⟩ := hE
      exact absurd (hk.symm.trans hk0) (hEL q hq))
    (fun H1 locs1 _ hW1 => kk H1 locs1 hW1)
end LROWS
abbrev QZ (G : GG) (A : Nat → Prop) (K R X : Int32) (wc wc' : va_W) : Array Value → State → Outcome → State → Prop := va_Qi (fun (r' : Int32) (u : Bool) => (u = true → K = 0 ∧ r' = R) ∧ (u = false → ¬ K = 0 ∧ r' = X)) (fun (u : Bool) (t : State) => va_P G.1 vwCl (cond u wc' wc) t.heap ∧ Kn G t ∧ va_D A (cond u wc' wc)) A
/-- the law's own calls: R where K = 0, the cells wc become wc'; else X, the cells as they were -/
def CZ (l : Launch) (G : GG) (y : MethodName) (wsy : List Cond) (rm : Room) (av : List Value) (wc : va_W) (K R X : Int32) (wc' : va_W) : Prop :=
  ∀ sz : Nat, vx_Met l y wsy rm (va_Pc av (KPreX G wc sz)) (QZ G (va_A wc sz) K R X wc wc') XF 1 6 (va_A wc sz)
theorem CZ_of {l : Launch} {G : GG} {y : MethodName} {ws ws' : List Cond} {rm : Room} {av : List Value} {wc wc' : va_W} {K R X : Int32} {cc : ByteArray} {maxL : Nat} {ret : Option FieldType} {own : String} {hh : List (Nat × Nat × Nat × Nat)}
    (hy : plainName y.cls = true) (hw : ws = Cond.codeWith y cc maxL ret hh :: ws') (hown : y.cls = own) (hL : (lg_sl av).length ≤ maxL)
    (body : ∀ (p : Program) (e : Env) (s : State) (m : MethodId) (args : Array Value) (below : List Frame) (meth : Method) (c : Code) (A : Nat → Prop), CallFix p m c cc maxL s args ws own → Kn G s → meth.sig.returnType = ret → meth.locks = false → c.exceptionTable.toList = tableOf hh → XE s → XZ A s s.heap → Wd G A s.heap wc s.heap [] →
      ∀ ls : Array Slot, lv_has ls maxL (lv_args 0 av) → W p l e rm s m args below meth c s.heap [] 0 0 (vx_MQ below (QZ G A K R X wc wc') XF args s 1 6 A) (F0 m 0 ls [])) : CZ l G y ws rm av wc K R X wc' := by
  intro sz
  refine vx_ofWH (cc := cc) (maxL := maxL) (ret := ret) hy hw ?_
  intro p e s m args below meth c s₁ B hml hv
  obtain ⟨rfl, ⟨hsz, hP, hK, hD0⟩, hXE, hXZ⟩ := hv
  subst hsz
  have hts := atoms_spec (ws := ws) B.pre
  have ho : s.vm.findClass own = some m.cls := by rw [← hown]; exact findClass_of_methodNamed B.named
  have htb := vx_table (x := y) B (hts (Cond.codeWith y cc maxL ret hh) (by rw [hw]; exact List.mem_cons_self))
  rw [lg_entry_eq]
  exact body p e s m _ below meth c (va_A wc s.heap.size) ⟨B.exec, B.bytes, hml, ho, hts⟩ hK B.returns B.notSynchronized htb hXE hXZ ⟨hP, hD0.self, va_S.rf, fun q h => Or.inr h⟩ _ (lv_entry av hL)
section ZROWS
variable {p : Program} {l : Launch} {e : Env} {R : Room} {s : State} {m : MethodId} {args : Array Value} {below : List Frame} {meth : Method} {c : Code} {H : Heap} {locs : List Loc} {cells slots : Nat} {Q : State → Prop}
variable {cc : ByteArray} {nL : Nat} {Ts : List Cond} {own : String} {pc : Nat} {ls : Array Slot} {rest : List Value} {G : GG} {A : Nat → Prop} {a : Nat} {ws : va_W} {H0 : Heap}
theorem kz_iret (S : CallFix p m c cc nL s args Ts own) (hr : meth.sig.returnType = some .int) (hlk : meth.locks = false) (hK : Kn G s) (u : Bool) (hW : Wd G A s.heap ws H locs) (is : List Nat) {wf wc' wc : va_W} (hn : va_nd is = true) (hs : is.map (fun i => ws[i]?) = wf.map some) (hwf : wf = cond u wc' wc) {v K R9 X : Int32} (hv : (u = true → K = 0 ∧ v = R9) ∧ (u = false → ¬ K = 0 ∧ v = X)) (h1 : Nat.ble cells 1 = true) (h6 : Nat.ble slots 6 = true) (hdg : decode cc pc = .ok (.ireturn, 1)) :
    W p l e R s m args below meth c H locs cells slots (vx_MQ below (QZ G A K R9 X wc wc') XF args s 1 6 A) (F0 m pc ls [.int v]) := by
  have h2 := hW.re is hn hs
  rw [hwf] at h2
  refine W.widen (Nat.le_of_ble_eq_true h1) (Nat.le_of_ble_eq_true h6) (vx_ret ?_)
  exact W.iret S.1 S.2.1 hr (fun t ht hWm => ⟨⟨v, u, rfl, hv, by rw [ht]; exact h2.1, va_K.moved hWm.alike hK, h2.2.1⟩, h2.2.2.1.F ht⟩) h2.2.2.1.2.2 hdg hlk
theorem kz_callS {index maxL : Nat} {y : MethodName} {bytes : ByteArray} {ret : Option FieldType} {wsy wsy' : List Cond} {rm : Room} {As st : List Value} {wc wc' wr : va_W} {K R9 X : Int32} {hh : List (Nat × Nat × Nat × Nat)}
    (hC : CZ l G y wsy rm As wc K R9 X wc') (S : CallFix p m c cc nL s args Ts own) (hK : Kn G s) (hW : Wd G A s.heap ws H locs) (hXE : XE s) (hXZ : XZ A s s.heap) (hG : GoodIn Ts (va_wsS own index y wsy)) (hwy : wsy = Cond.codeWith y bytes maxL ret hh :: wsy') (hrm : rm.cells = 1 ∧ rm.slots = 6)
    (hd : y.cls ≠ "java/lang/invoke/MethodHandle" ∧ y.cls ≠ "java/lang/invoke/VarHandle" ∧ (parseMethodDescriptor y.desc).map (fun d => d.parameters.length) = some As.length) (hR : Nat.ble (rm.frames + 1) R.frames = true ∧ Nat.ble (8 + (maxL + 11) + rm.locals) R.locals = true)
    (isC isR : List Nat) (h1 : isC.map (fun i => ws[i]?) = wc.map some) (h2 : isR.map (fun i => ws[i]?) = wr.map some) (hnC : va_nd isC = true) (hnR : va_nd isR = true) (hdis : ∀ i ∈ isR, i ∉ isC)
    (hst : st = As.reverse ++ rest) (hsl : ls.size = nL) (hro : Nat.ble ((rest.map fun v => v.category).sum) 8 = true) (hdg : decode cc pc = .ok (.invokestatic index, 3)) (hf : cells + 1 ≤ R.cells ∧ slots + 6 ≤ R.slots)
    (kx : ∀ (H1 : Heap) (locs1 : List Loc), ¬ K = 0 → Wd G A s.heap (wr ++ wc) H1 locs1 → W p l e R s m args below meth c H1 locs1 (cells + 1) (slots + 6) Q (F0 m (pc + 3) ls (.int X :: rest)))
    (kk : ∀ (H1 : Heap) (locs1 : List Loc), K = 0 → Wd G A s.heap (wr ++ wc') H1 locs1 → W p l e R s m args below meth c H1 locs1 (cells + 1) (slots + 6) Q (F0 m (pc + 3) ls (.int R9 :: rest))) : W p l e R s m args below meth c H locs cells slots Q (F0 m pc ls st) := by
  obtain ⟨hPc, hDc, hFc⟩ := hW.cut isC h1 hnC
  subst hst
  refine vx_calli (SX := Unit) (px := fun _ => True) (BX := fun _ _ _ => False) (AX := va_A wc H.size) (vx_keepX (vx_runSX (As := As) (rest := rest) S (hC H.size) (vx_cwSW As.length S.2.2.2.2 hG hwy hrm.1 hrm.2 hd ⟨Nat.le_of_ble_eq_true hR.1, Nat.le_of_ble_eq_true hR.2⟩) ⟨kpreX_blind, fun U hU hWm => ⟨rfl, ⟨by rw [hU], by rw [hU]; exact hPc, va_K.moved hWm.alike hK, hDc⟩, hXE.warm hWm, by rw [hU]; exact XZ.at hW hXZ hFc hWm⟩⟩ rfl rfl hsl rfl (lv_room (Nat.le_of_ble_eq_true hro)) hdg hf)) hW.2.2.1 (fun q _ h => hFc q h) hFc (fun q _ h => hFc q h) (fun E ce q9 u t H1 locs1 ht hvm hw hB hz1 hk1 hS hq9 hv9 hc9 => hB.elim) (fun r' u t H1 locs1 ht hvm hw hB hz1 hk1 hS => ?_)
  obtain ⟨hP1, hK1, hD1⟩ := hB
  rw [ht] at hP1
  cases u with
  | true =>
    obtain ⟨e1, e2⟩ := hw.1 rfl
    rw [e2]
    exact kk H1 locs1 e1 (hW.join isC isR h1 h2 hnR hdis hFc hk1 hS hP1 hD1)
  | false =>
    obtain ⟨e1, e2⟩ := hw.2 rfl
    rw [e2]
    exact kx H1 locs1 e1 (hW.join isC isR h1 h2 hnR hdis hFc hk1 hS hP1 hD1)
end ZROWS
theorem pF_z : pF (0, 0, 0, 0, 0, 0, 0) = fun _ => 0 := by
  funext j
  match j with
  | 0 => rfl
  | 1 => rfl
  | 2 => rfl
  | 3 => rfl
  | 4 => rfl
  | 5 => rfl
  | 6 => rfl
  | j + 7 => rfl
theorem nF_z : nF (0, 0, 0, 0, 0) = fun _ => 0 := by
  funext j
  match j with
  | 0 => rfl
  | 1 => rfl
  | 2 => rfl
  | 3 => rfl
  | 4 => rfl
  | j + 5 => rfl
end LKIT2
