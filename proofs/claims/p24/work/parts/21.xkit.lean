section XKIT
abbrev nIAE : String := "java/lang/IllegalArgumentException"
abbrev nISE : String := "java/lang/IllegalStateException"
abbrev nIOB : String := "java/lang/IndexOutOfBoundsException"
abbrev xNames : List String := ["java/lang/RuntimeException", "java/lang/Exception"]
def xStrs : List (Nat × String) := [(46, "the age is 18 to 70"), (53, "the sum is 100000 to 50000000"), (55, "the kind is 0 or 1"), (67, "the month is 0 to the present one"), (69, "the act is 0 to 5"), (72, "the amount is 1 to 2000000"), (80, "60 acts were told"), (108, "there is no such act"), (121, "1 to 24 months are closed at once"), (123, "at most 120 months are closed"), (160, "the age is 18 to 120"), (171, "1 to 120 months are looked at"), (176, "1 to 36 months are looked at")]
/-- what a throw asks of the tables -/
abbrev xD (Y : String) : Cond := .declares ⟨Y, "<init>", "(Ljava/lang/String;)V"⟩
def XE (U : State) : Prop := va_Nw (.castable nIAE nIAE) U ∧ va_Nw (.castable nISE nISE) U ∧ va_Nw (.castable nIOB nIOB) U ∧ True ∧ (va_Nw (xD "java/lang/RuntimeException") U ∧ va_Nw (xD "java/lang/Exception") U ∧ va_Nw (xD "java/lang/Throwable") U) ∧ ∀ q ∈ xStrs, ∃ a : Nat, vk_R RX4 q.1 q.2 a U
/-- .. and of the heap -/
def XZ (A : Nat → Prop) (U : State) (H : Heap) : Prop := vx_Zq Bundle.tN "UNASSIGNED_STACK" Bundle.steD A U H ∧ vx_Zq Bundle.tN "SUPPRESSED_SENTINEL" Bundle.listD A U H
theorem XE.warm {s U : State} (hW : s.WarmedH U.vm) (h : XE s) : XE U :=
  ⟨va_Nw.warmC hW h.1, va_Nw.warmC hW h.2.1, va_Nw.warmC hW h.2.2.1, trivial, ⟨va_Nw.warmD hW h.2.2.2.2.1.1, va_Nw.warmD hW h.2.2.2.2.1.2.1, va_Nw.warmD hW h.2.2.2.2.1.2.2⟩, fun q hq => by
    obtain ⟨a, ha⟩ := h.2.2.2.2.2 q hq
    exact ⟨a, vk_R.warm hW ha⟩⟩
theorem XE.same {u U : State} (hv : U.vm = u.vm) (h : XE u) : XE U :=
  ⟨va_Nw.same rfl hv.symm h.1, va_Nw.same rfl hv.symm h.2.1, va_Nw.same rfl hv.symm h.2.2.1, trivial, ⟨va_Nw.same rfl hv.symm h.2.2.2.2.1.1, va_Nw.same rfl hv.symm h.2.2.2.2.1.2.1, va_Nw.same rfl hv.symm h.2.2.2.2.1.2.2⟩, fun q hq => by
    obtain ⟨a, ha⟩ := h.2.2.2.2.2 q hq
    exact ⟨a, vk_R.same hv ha⟩⟩
abbrev KPreX (G : GG) (wc : va_W) (sz : Nat) : State → Prop := fun U => KPre G wc sz U ∧ XE U ∧ XZ (va_A wc sz) U U.heap
abbrev QXI (G : GG) (A : Nat → Prop) (k r : Int32) (wc' : va_W) : Array Value → State → Outcome → State → Prop := va_Qi (fun (r' : Int32) (_ : Unit) => k = 0 ∧ r' = r) (KB G A wc') A
abbrev XQ (G : GG) (A : Nat → Prop) (k : Int32) (wc : va_W) (EL : List (Int32 × String)) : String → State → State → Prop := vx_X (fun (_ : Unit) => True) (fun (E : String) (_ : Unit) (t : State) => (∃ q ∈ EL, k = q.1 ∧ E = q.2) ∧ KB G A wc () t) A
/-- a method that answers r (k = 0), the cells wc become wc', or throws (k and the exception are one of EL), the cells as they were -/
def CX (l : Launch) (G : GG) (y : MethodName) (wsy : List Cond) (rm : Room) (av : List Value) (wc : va_W) (k r : Int32) (wc' : va_W) (EL : List (Int32 × String)) : Prop :=
  ∀ sz : Nat, vx_Met l y wsy rm (va_Pc av (KPreX G wc sz)) (QXI G (va_A wc sz) k r wc') (XQ G (va_A wc sz) k wc EL) 1 6 (va_A wc sz)
theorem CX_of {l : Launch} {G : GG} {y : MethodName} {ws ws' : List Cond} {rm : Room} {av : List Value} {wc wc' : va_W} {k r : Int32} {EL : List (Int32 × String)} {cc : ByteArray} {maxL : Nat} {ret : Option FieldType} {own : String}
    (hy : plainName y.cls = true) (hw : ws = Cond.code y cc maxL ret :: ws') (hown : y.cls = own) (hL : (lg_sl av).length ≤ maxL)
    (body : ∀ (p : Program) (e : Env) (s : State) (m : MethodId) (args : Array Value) (below : List Frame) (meth : Method) (c : Code) (A : Nat → Prop), CallFix p m c cc maxL s args ws own → Kn G s → meth.sig.returnType = ret → meth.locks = false → (∀ x ∈ c.exceptionTable.toList, False) → XE s → XZ A s s.heap → Wd G A s.heap wc s.heap [] →
      ∀ ls : Array Slot, lv_has ls maxL (lv_args 0 av) → W p l e rm s m args below meth c s.heap [] 0 0 (vx_MQ below (QXI G A k r wc') (XQ G A k wc EL) args s 1 6 A) (F0 m 0 ls [])) : CX l G y ws rm av wc k r wc' EL := by
  intro sz
  refine vx_ofW (cc := cc) (maxL := maxL) (ret := ret) hy hw ?_
  intro p e s m args below meth c s₁ B hml hex hv
  obtain ⟨rfl, ⟨hsz, hP, hK, hD0⟩, hXE, hXZ⟩ := hv
  subst hsz
  have hts := atoms_spec (ws := ws) B.pre
  have ho : s.vm.findClass own = some m.cls := by rw [← hown]; exact findClass_of_methodNamed B.named
  rw [lg_entry_eq]
  exact body p e s m _ below meth c (va_A wc s.heap.size) ⟨B.exec, B.bytes, hml, ho, hts⟩ hK B.returns B.notSynchronized hex hXE hXZ ⟨hP, hD0.self, va_S.rf, fun q h => Or.inr h⟩ _ (lv_entry av hL)
theorem xb_nIAE : ∀ w ∈ (vx_atS RX4 48 nIAE xNames).filter (fun w => !goodWord w), w ∈ [Cond.castable nIAE nIAE, xD "java/lang/RuntimeException", xD "java/lang/Exception", xD "java/lang/Throwable"] := by decide +kernel
theorem xb_nISE : ∀ w ∈ (vx_atS RX4 82 nISE xNames).filter (fun w => !goodWord w), w ∈ [Cond.castable nISE nISE, xD "java/lang/RuntimeException", xD "java/lang/Exception", xD "java/lang/Throwable"] := by decide +kernel
theorem xb_nIOB : ∀ w ∈ (vx_atS RX4 110 nIOB xNames).filter (fun w => !goodWord w), w ∈ [Cond.castable nIOB nIOB, xD "java/lang/RuntimeException", xD "java/lang/Exception", xD "java/lang/Throwable"] := by decide +kernel
theorem xg_nIAE : ∀ w ∈ Cond.classLink RX4 44 nIAE :: Cond.initialized nIAE :: vx_atS RX4 48 nIAE xNames, vx_ot w = true := by decide +kernel
theorem xg_nISE : ∀ w ∈ Cond.classLink RX4 78 nISE :: Cond.initialized nISE :: vx_atS RX4 82 nISE xNames, vx_ot w = true := by decide +kernel
theorem xg_nIOB : ∀ w ∈ Cond.classLink RX4 106 nIOB :: Cond.initialized nIOB :: vx_atS RX4 110 nIOB xNames, vx_ot w = true := by decide +kernel
section XROWS
variable {p : Program} {l : Launch} {e : Env} {R : Room} {s : State} {m : MethodId} {args : Array Value} {below : List Frame} {meth : Method} {c : Code} {H : Heap} {locs : List Loc} {cells slots : Nat} {Q : State → Prop}
variable {cc : ByteArray} {nL : Nat} {Ts : List Cond} {own : String} {pc : Nat} {ls : Array Slot} {rest : List Value} {G : GG} {A : Nat → Prop} {a : Nat} {ws : va_W} {H0 : Heap}
theorem kx_throw (hst : l.stackTraces = false) (S : CallFix p m c cc nL s args Ts own) (hlk : meth.locks = false) (hex : ∀ x ∈ c.exceptionTable.toList, False) (hXE : XE s) (hXZ : XZ A s s.heap) (hK : Kn G s) (hW : Wd G A s.heap ws H locs) (is : List Nat) {wc : va_W} (hn : va_nd is = true) (hs : is.map (fun i => ws[i]?) = wc.map some)
    {ik ix ic sa : Nat} {cls text : String} (hcls : Bundle.fit cls = true) (hk1 : Cond.classLink own ik cls ∈ Ts) (hk2 : Cond.initialized cls ∈ Ts) (hstr : vk_R own ix text sa s) (hgw : ∀ w ∈ (vx_atS own ic cls xNames).filter goodWord, w ∈ Ts) (hbw : ∀ w ∈ (vx_atS own ic cls xNames).filter (fun w => !goodWord w), w ∈ [Cond.castable cls cls, xD "java/lang/RuntimeException", xD "java/lang/Exception", xD "java/lang/Throwable"]) (hc9 : va_Nw (.castable cls cls) s)
    (hgood : ∀ w ∈ Cond.classLink own ik cls :: Cond.initialized cls :: vx_atS own ic cls xNames, vx_ot w = true) (hsl : ls.size = nL)
    (d0 : decode cc pc = .ok (.new ik, 3)) (d3 : decode cc (pc + 3) = .ok (.dup, 1)) (d4 : decode cc (pc + 4) = .ok (.ldc ix, 2)) (d6 : decode cc (pc + 6) = .ok (.invokespecial ic, 3)) (d9 : decode cc (pc + 9) = .ok (.athrow, 1))
    (hfr : Nat.ble 6 R.frames = true) (hlo : Nat.ble ((rest.map fun v => v.category).sum + 82) R.locals = true) (hRc : Nat.ble (cells + 1) R.cells = true) (hRs : Nat.ble (slots + 6) R.slots = true) (hc : Nat.ble (cells + 1) 1 = true) (hs6 : Nat.ble (slots + 6) 6 = true)
    {k r : Int32} {wc' : va_W} {EL : List (Int32 × String)} (hE : ∃ q ∈ EL, k = q.1 ∧ cls = q.2) : W p l e R s m args below meth c H locs cells slots (vx_MQ below (QXI G A k r wc') (XQ G A k wc EL) args s 1 6 A) (F0 m pc ls rest) := by
  have h2 := hW.re is hn hs
  refine vx_throwS S.1 S.2.1 hst (names := xNames) S.2.2.2.1 hcls (by decide +kernel) (S.2.2.2.2 _ hk1) (S.2.2.2.2 _ hk2) hstr (vx_hat (fun w h => S.2.2.2.2 _ (hgw w h)) hbw (vx_c (va_Nw.use rfl hc9) (vx_c (va_Nw.use rfl hXE.2.2.2.2.1.1) (vx_c (va_Nw.use rfl hXE.2.2.2.2.1.2.1) (vx_c (va_Nw.use rfl hXE.2.2.2.2.1.2.2) vx_n))))) hgood hXZ.1 hXZ.2 hW.2.2.1 (hsl.trans S.2.2.1.symm) d0 d3 d4 d6 d9 (fun x hx => (hex x hx).elim)
    (Nat.le_of_ble_eq_true hfr) (Nat.le_of_ble_eq_true hlo) (Nat.le_of_ble_eq_true hRc) (Nat.le_of_ble_eq_true hRs) hlk ?_ hW.2.2.1.2.2 (Nat.le_of_ble_eq_true hc) (Nat.le_of_ble_eq_true hs6)
  intro t hvm hz hq
  refine ⟨(), trivial, ⟨hE, h2.1.kept (fun j q hj => hq q.1 (h2.1 j q hj).lt), va_K.moved hvm hK, h2.2.1⟩, Nat.le_trans hW.2.2.1.1 hz, fun q h1 h3 => ?_⟩
  rw [hq q (Nat.lt_of_lt_of_le h1 hW.2.2.1.1)]
  exact hW.2.2.1.2.1 q h1 h3
theorem kx_iret (S : CallFix p m c cc nL s args Ts own) (hr : meth.sig.returnType = some .int) (hlk : meth.locks = false) (hK : Kn G s) (hW : Wd G A s.heap ws H locs) (is : List Nat) {wf wc' wc : va_W} (hn : va_nd is = true) (hs : is.map (fun i => ws[i]?) = wf.map some) (hwf : wf = wc') {v k r : Int32} {EL : List (Int32 × String)} (hv : v = r) (hk : k = 0) (h1 : Nat.ble cells 1 = true) (h6 : Nat.ble slots 6 = true) (hdg : decode cc pc = .ok (.ireturn, 1)) :
    W p l e R s m args below meth c H locs cells slots (vx_MQ below (QXI G A k r wc') (XQ G A k wc EL) args s 1 6 A) (F0 m pc ls [.int v]) := by
  subst hwf
  subst hv
  have h2 := hW.re is hn hs
  refine W.widen (Nat.le_of_ble_eq_true h1) (Nat.le_of_ble_eq_true h6) (vx_ret ?_)
  exact W.iret S.1 S.2.1 hr (fun t ht hWm => ⟨⟨v, (), rfl, ⟨hk, rfl⟩, by rw [ht]; exact h2.1, va_K.moved hWm.alike hK, h2.2.1⟩, h2.2.2.1.F ht⟩) h2.2.2.1.2.2 hdg hlk
theorem kx_zret (S : CallFix p m c cc nL s args Ts own) (hr : meth.sig.returnType = some .boolean) (hlk : meth.locks = false) (hK : Kn G s) (hW : Wd G A s.heap ws H locs) (is : List Nat) {wf wc' wc : va_W} (hn : va_nd is = true) (hs : is.map (fun i => ws[i]?) = wf.map some) (hwf : wf = wc') {v k : Int32} {r : Bool} {EL : List (Int32 × String)} (hv : v = bI r) (hk : k = 0) (h1 : Nat.ble cells 1 = true) (h6 : Nat.ble slots 6 = true) (hdg : decode cc pc = .ok (.ireturn, 1)) :
    W p l e R s m args below meth c H locs cells slots (vx_MQ below (QXI G A k (bI r) wc') (XQ G A k wc EL) args s 1 6 A) (F0 m pc ls [.int v]) := by
  subst hwf
  subst hv
  have h2 := hW.re is hn hs
  refine W.widen (Nat.le_of_ble_eq_true h1) (Nat.le_of_ble_eq_true h6) (vx_ret ?_)
  exact W.zret S.1 S.2.1 hr (nar_bI r) (fun t ht hWm => ⟨⟨bI r, (), rfl, ⟨hk, rfl⟩, by rw [ht]; exact h2.1, va_K.moved hWm.alike hK, h2.2.1⟩, h2.2.2.1.F ht⟩) h2.2.2.1.2.2 hdg hlk
theorem kpreX_blind {wc : va_W} {sz : Nat} {av : List Value} : FrameBlind (va_Pc av (KPreX G wc sz)) := by
  intro a U g mk q
  obtain ⟨q0, ⟨q1, qP, qK, qD⟩, qE, qZ⟩ := q
  exact ⟨q0, ⟨q1, qP, va_K.moved (u := U) (U := U.calling g mk a) (Vm.Alike.refl U.vm) qK, qD⟩, XE.same (u := U) rfl qE, vx_Zq.moved (u := U) (Vm.Alike.refl U.vm) qZ.1, vx_Zq.moved (u := U) (Vm.Alike.refl U.vm) qZ.2⟩
theorem XZ.at {wc : va_W} {U : State} (hW : Wd G A s.heap ws H locs) (hZ : XZ A s s.heap) (hF : ∀ q : Nat, va_A wc H.size q → A q) (hWm : s.WarmedH U.vm) : XZ (va_A wc H.size) U H :=
  ⟨vx_Zq.moved hWm.alike (vx_Zq.narrow (vx_Zq.kept hZ.1 hW.2.2.1.2.1) hF), vx_Zq.moved hWm.alike (vx_Zq.narrow (vx_Zq.kept hZ.2 hW.2.2.1.2.1) hF)⟩
theorem kx_callV {C : String} {T : u_T} {N ci qb index maxL : Nat} {y : MethodName} {bytes : ByteArray} {ret : Option FieldType} {wsy wsy' : List Cond} {rm : Room} {As st : List Value} {b : Nat} {wc wc' wr : va_W} {fs : List Value} {k r : Int32} {EL : List (Int32 × String)}
    (hC : CX l G y wsy rm (.ref b :: As) wc k r wc' EL) (S : CallFix p m c cc nL s args Ts own) (hK : Kn G s) (hW : Wd G A s.heap ws H locs) (hXE : XE s) (hXZ : XZ A s s.heap) (hG : GoodIn Ts (wsV own index C y wsy)) (hwy : wsy = Cond.code y bytes maxL ret :: wsy') (hrm : rm.cells = 1 ∧ rm.slots = 6)
    (hd : y.cls = C ∧ y.cls ≠ "java/lang/invoke/MethodHandle" ∧ y.cls ≠ "java/lang/invoke/VarHandle" ∧ (parseMethodDescriptor y.desc).map (fun d => d.parameters.length) = some As.length) (hR : Nat.ble (rm.frames + 1) R.frames = true ∧ Nat.ble (8 + (maxL + 11) + rm.locals) R.locals = true)
    (hq : ws[qb]? = some (b, .inr (ci, fs))) (hci : vwCl[ci]? = some (C, T, N)) (isC isR : List Nat) (h1 : isC.map (fun i => ws[i]?) = wc.map some) (h2 : isR.map (fun i => ws[i]?) = wr.map some) (hnC : va_nd isC = true) (hnR : va_nd isR = true) (hdis : ∀ i ∈ isR, i ∉ isC)
    (hst : st = As.reverse ++ .ref b :: rest) (hsl : ls.size = nL) (hro : Nat.ble ((rest.map fun v => v.category).sum) 8 = true) (hdg : decode cc pc = .ok (.invokevirtual index, 3)) (hf : Nat.ble (cells + 1) R.cells = true ∧ Nat.ble (slots + 6) R.slots = true)
    (kx : ∀ (H1 : Heap) (locs1 : List Loc) (q9 : Nat) (ce : Cell) (E : String), (∃ q ∈ EL, k = q.1 ∧ E = q.2) → Wd G A s.heap (wr ++ wc) H1 locs1 → H1[q9]? = some ce → ce.vm = .none → s.vm.findClass E = some ce.cls → vx_W p l e R s m args below meth c H1 locs1 (cells + 1) (slots + 6) Q (F0 m pc ls rest) q9)
    (kk : ∀ (H1 : Heap) (locs1 : List Loc), k = 0 → Wd G A s.heap (wr ++ wc') H1 locs1 → W p l e R s m args below meth c H1 locs1 (cells + 1) (slots + 6) Q (F0 m (pc + 3) ls (.int r :: rest))) : W p l e R s m args below meth c H locs cells slots Q (F0 m pc ls st) := by
  obtain ⟨hPc, hDc, hFc⟩ := hW.cut isC h1 hnC
  subst hst
  refine vx_calli (vx_runV (As := As) (rest := rest) (C := C) S (hC H.size) (cwV As.length S.2.2.2.2 hG hwy hrm.1 hrm.2 hd ⟨Nat.le_of_ble_eq_true hR.1, Nat.le_of_ble_eq_true hR.2⟩) ⟨kpreX_blind, hW.recv hK hci hq, fun U hU hWm => ⟨rfl, ⟨by rw [hU], by rw [hU]; exact hPc, va_K.moved hWm.alike hK, hDc⟩, hXE.warm hWm, by rw [hU]; exact XZ.at hW hXZ hFc hWm⟩⟩ rfl rfl hsl rfl (lv_room (Nat.le_of_ble_eq_true hro)) hdg ⟨Nat.le_of_ble_eq_true hf.1, Nat.le_of_ble_eq_true hf.2⟩) hW.2.2.1 (fun q _ h => hFc q h) hFc (fun q _ h => hFc q h) (fun E ce q9 u t H1 locs1 ht hvm hw hB hz1 hk1 hS hq9 hv9 hc9 => ?_) (fun r' u t H1 locs1 ht hvm hw hB hz1 hk1 hS => ?_)
  · obtain ⟨hE, hP1, hK1, hD1⟩ := hB
    rw [ht] at hP1
    exact kx H1 locs1 q9 ce E hE (hW.join isC isR h1 h2 hnR hdis hFc hk1 hS hP1 hD1) hq9 hv9 hc9
  · obtain ⟨hP1, hK1, hD1⟩ := hB
    rw [ht] at hP1
    rw [hw.2]
    exact kk H1 locs1 hw.1 (hW.join isC isR h1 h2 hnR hdis hFc hk1 hS hP1 hD1)
end XROWS
abbrev QY (G : GG) (A : Nat → Prop) (k : Int32) (wc wc' : va_W) : Array Value → State → Outcome → State → Prop := va_Qi (fun (r' : Int32) (u : Bool) => r' = k ∧ (u = true ↔ k = 0)) (fun (u : Bool) (t : State) => va_P G.1 vwCl (cond u wc' wc) t.heap ∧ Kn G t ∧ va_D A (cond u wc' wc)) A
abbrev XF : String → State → State → Prop := fun _ _ _ => False
/-- the law's own calls: they answer k; the cells wc become wc' where k = 0 -/
def CY (l : Launch) (G : GG) (y : MethodName) (wsy : List Cond) (rm : Room) (av : List Value) (wc : va_W) (k : Int32) (wc' : va_W) : Prop :=
  ∀ sz : Nat, vx_Met l y wsy rm (va_Pc av (KPreX G wc sz)) (QY G (va_A wc sz) k wc wc') XF 1 6 (va_A wc sz)
theorem CY_of {l : Launch} {G : GG} {y : MethodName} {ws ws' : List Cond} {rm : Room} {av : List Value} {wc wc' : va_W} {k : Int32} {cc : ByteArray} {maxL : Nat} {ret : Option FieldType} {own : String} {hh : List (Nat × Nat × Nat × Nat)}
    (hy : plainName y.cls = true) (hw : ws = Cond.codeWith y cc maxL ret hh :: ws') (hown : y.cls = own) (hL : (lg_sl av).length ≤ maxL)
    (body : ∀ (p : Program) (e : Env) (s : State) (m : MethodId) (args : Array Value) (below : List Frame) (meth : Method) (c : Code) (A : Nat → Prop), CallFix p m c cc maxL s args ws own → Kn G s → meth.sig.returnType = ret → meth.locks = false → c.exceptionTable.toList = tableOf hh → XE s → XZ A s s.heap → Wd G A s.heap wc s.heap [] →
      ∀ ls : Array Slot, lv_has ls maxL (lv_args 0 av) → W p l e rm s m args below meth c s.heap [] 0 0 (vx_MQ below (QY G A k wc wc') XF args s 1 6 A) (F0 m 0 ls [])) : CY l G y ws rm av wc k wc' := by
  intro sz
  refine vx_ofWH (cc := cc) (maxL := maxL) (ret := ret) hy hw ?_
  intro p e s m args below meth c s₁ B hml hv
  obtain ⟨rfl, ⟨hsz, hP, hK, hD0⟩, hXE, hXZ⟩ := hv
  subst hsz
  have hts := atoms_spec (ws := ws) B.pre
  have ho : s.vm.findClass own = some m.cls := by rw [← hown]; exact findClass_of_methodNamed B.named
  have htb := vx_table (x := y) B (hts (Cond.codeWith y cc maxL ret hh) (by rw [hw]; exact List.mem_cons_self))
  rw [lg_entry_eq]
  exact body p e s m _ below meth c (va_A wc s.heap.size) ⟨B.exec, B.bytes, hml, ho, hts⟩ hK B.returns B.notSynchronized htb hXE hXZ ⟨hP, hD0.self, va_S.rf, fun q h => Or.inr h⟩ _ (lv_entry av hL)
theorem vx_keepX {p : Program} {l : Launch} {e : Env} {R : Room} {s : State} {m : MethodId} {args : Array Value} {below : List Frame} {meth : Method} {c : Code} {H : Heap} {locs : List Loc} {cells slots mc ms : Nat} {g : JFrame} {rest : List Value} {Qa : State → Outcome → State → Prop} {free : Addr → Prop} {XC : String → State → State → Prop}
    (h : vx_Run p l e R s m args below meth c H locs cells slots mc ms g rest Qa XF free) : vx_Run p l e R s m args below meth c H locs cells slots mc ms g rest Qa XC free := by
  intro T hT X
  rcases h T hT X with h | ⟨q, st₀, t, T', L, E, ce, h0, X', hL, e1, e2, hx, h9⟩
  · exact Or.inl h
  · exact hx.elim
theorem vp_01 : vp_in 0 1 := by
  rw [vp_in_iff]
  decide
section YROWS
variable {p : Program} {l : Launch} {e : Env} {R : Room} {s : State} {m : MethodId} {args : Array Value} {below : List Frame} {meth : Method} {c : Code} {H : Heap} {locs : List Loc} {cells slots : Nat} {Q : State → Prop}
variable {cc : ByteArray} {nL : Nat} {Ts : List Cond} {own : String} {pc : Nat} {ls : Array Slot} {rest : List Value} {G : GG} {A : Nat → Prop} {a : Nat} {ws : va_W} {H0 : Heap}
theorem ky_iret (S : CallFix p m c cc nL s args Ts own) (hr : meth.sig.returnType = some .int) (hlk : meth.locks = false) (hK : Kn G s) (u : Bool) (hW : Wd G A s.heap ws H locs) (is : List Nat) {wf wc' wc : va_W} (hn : va_nd is = true) (hs : is.map (fun i => ws[i]?) = wf.map some) (hwf : wf = cond u wc' wc) {v k : Int32} (hv : v = k) (hk : u = true ↔ k = 0) (h1 : Nat.ble cells 1 = true) (h6 : Nat.ble slots 6 = true) (hdg : decode cc pc = .ok (.ireturn, 1)) :
    W p l e R s m args below meth c H locs cells slots (vx_MQ below (QY G A k wc wc') XF args s 1 6 A) (F0 m pc ls [.int v]) := by
  subst hv
  have h2 := hW.re is hn hs
  rw [hwf] at h2
  refine W.widen (Nat.le_of_ble_eq_true h1) (Nat.le_of_ble_eq_true h6) (vx_ret ?_)
  exact W.iret S.1 S.2.1 hr (fun t ht hWm => ⟨⟨v, u, rfl, ⟨rfl, hk⟩, by rw [ht]; exact h2.1, va_K.moved hWm.alike hK, h2.2.1⟩, h2.2.2.1.F ht⟩) h2.2.2.1.2.2 hdg hlk
theorem ky_callS {index maxL : Nat} {y : MethodName} {bytes : ByteArray} {ret : Option FieldType} {wsy wsy' : List Cond} {rm : Room} {As st : List Value} {wc wc' wr : va_W} {k : Int32} {hh : List (Nat × Nat × Nat × Nat)}
    (hC : CY l G y wsy rm As wc k wc') (S : CallFix p m c cc nL s args Ts own) (hK : Kn G s) (hW : Wd G A s.heap ws H locs) (hXE : XE s) (hXZ : XZ A s s.heap) (hG : GoodIn Ts (va_wsS own index y wsy)) (hwy : wsy = Cond.codeWith y bytes maxL ret hh :: wsy') (hrm : rm.cells = 1 ∧ rm.slots = 6)
    (hd : y.cls ≠ "java/lang/invoke/MethodHandle" ∧ y.cls ≠ "java/lang/invoke/VarHandle" ∧ (parseMethodDescriptor y.desc).map (fun d => d.parameters.length) = some As.length) (hR : Nat.ble (rm.frames + 1) R.frames = true ∧ Nat.ble (8 + (maxL + 11) + rm.locals) R.locals = true)
    (isC isR : List Nat) (h1 : isC.map (fun i => ws[i]?) = wc.map some) (h2 : isR.map (fun i => ws[i]?) = wr.map some) (hnC : va_nd isC = true) (hnR : va_nd isR = true) (hdis : ∀ i ∈ isR, i ∉ isC)
    (hst : st = As.reverse ++ rest) (hsl : ls.size = nL) (hro : Nat.ble ((rest.map fun v => v.category).sum) 8 = true) (hdg : decode cc pc = .ok (.invokestatic index, 3)) (hf : cells + 1 ≤ R.cells ∧ slots + 6 ≤ R.slots)
    (kx : ∀ (H1 : Heap) (locs1 : List Loc), ¬ k = 0 → Wd G A s.heap (wr ++ wc) H1 locs1 → W p l e R s m args below meth c H1 locs1 (cells + 1) (slots + 6) Q (F0 m (pc + 3) ls (.int k :: rest)))
    (kk : ∀ (H1 : Heap) (locs1 : List Loc), k = 0 → Wd G A s.heap (wr ++ wc') H1 locs1 → W p l e R s m args below meth c H1 locs1 (cells + 1) (slots + 6) Q (F0 m (pc + 3) ls (.int k :: rest))) : W p l e R s m args below meth c H locs cells slots Q (F0 m pc ls st) := by
  obtain ⟨hPc, hDc, hFc⟩ := hW.cut isC h1 hnC
  subst hst
  refine vx_calli (SX := Unit) (px := fun _ => True) (BX := fun _ _ _ => False) (AX := va_A wc H.size) (vx_keepX (vx_runSX (As := As) (rest := rest) S (hC H.size) (vx_cwSW As.length S.2.2.2.2 hG hwy hrm.1 hrm.2 hd ⟨Nat.le_of_ble_eq_true hR.1, Nat.le_of_ble_eq_true hR.2⟩) ⟨kpreX_blind, fun U hU hWm => ⟨rfl, ⟨by rw [hU], by rw [hU]; exact hPc, va_K.moved hWm.alike hK, hDc⟩, hXE.warm hWm, by rw [hU]; exact XZ.at hW hXZ hFc hWm⟩⟩ rfl rfl hsl rfl (lv_room (Nat.le_of_ble_eq_true hro)) hdg hf)) hW.2.2.1 (fun q _ h => hFc q h) hFc (fun q _ h => hFc q h) (fun E ce q9 u t H1 locs1 ht hvm hw hB hz1 hk1 hS hq9 hv9 hc9 => hB.elim) (fun r' u t H1 locs1 ht hvm hw hB hz1 hk1 hS => ?_)
  obtain ⟨hP1, hK1, hD1⟩ := hB
  rw [ht] at hP1
  obtain ⟨hrk, huk⟩ := hw
  rw [hrk]
  cases u with
  | true => exact kk H1 locs1 (huk.mp rfl) (hW.join isC isR h1 h2 hnR hdis hFc hk1 hS hP1 hD1)
  | false => exact kx H1 locs1 (fun q => by cases huk.mpr q) (hW.join isC isR h1 h2 hnR hdis hFc hk1 hS hP1 hD1)
end YROWS
end XKIT
