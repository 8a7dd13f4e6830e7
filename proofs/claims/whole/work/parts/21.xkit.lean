section XKIT
abbrev nIAE : String := "java/lang/IllegalArgumentException"
abbrev nISE : String := "java/lang/IllegalStateException"
abbrev nIOB : String := "java/lang/IndexOutOfBoundsException"
abbrev xNames : List String := ["java/lang/RuntimeException", "java/lang/Exception"]
def xStrs : List (Nat × String) := [(46, "the age is 18 to 70"), (53, "the sum is 100000 to 50000000"), (55, "the kind is 0 or 1"), (67, "the month is 0 to the present one"), (69, "the act is 0 to 5"), (72, "the amount is 1 to 2000000"), (80, "60 acts were told"), (108, "there is no such act"), (121, "1 to 24 months are closed at once"), (123, "at most 120 months are closed"), (160, "the age is 18 to 120"), (171, "1 to 120 months are looked at"), (176, "1 to 36 months are looked at")]
/-- what a throw asks of the tables -/
abbrev xD (Y : String) : Cond := .declares ⟨Y, "<init>", "(Ljava/lang/String;)V"⟩
def XE (U : State) : Prop := va_Nw (.castable nIAE nIAE) U ∧ va_Nw (.castable nISE nISE) U ∧ va_Nw (.castable nIOB nIOB) U ∧ va_Nc nISE nIAE U ∧ (va_Nw (xD "java/lang/RuntimeException") U ∧ va_Nw (xD "java/lang/Exception") U ∧ va_Nw (xD "java/lang/Throwable") U) ∧ ∀ q ∈ xStrs, ∃ a : Nat, vk_R RX4 q.1 q.2 a U
/-- .. and of the heap -/
def XZ (A : Nat → Prop) (U : State) (H : Heap) : Prop := vx_Zq Bundle.tN "UNASSIGNED_STACK" Bundle.steD A U H ∧ vx_Zq Bundle.tN "SUPPRESSED_SENTINEL" Bundle.listD A U H
theorem XE.warm {s U : State} (hW : s.WarmedH U.vm) (h : XE s) : XE U :=
  ⟨va_Nw.warmC hW h.1, va_Nw.warmC hW h.2.1, va_Nw.warmC hW h.2.2.1, h.2.2.2.1.moved hW.alike, ⟨va_Nw.warmD hW h.2.2.2.2.1.1, va_Nw.warmD hW h.2.2.2.2.1.2.1, va_Nw.warmD hW h.2.2.2.2.1.2.2⟩, fun q hq => by
    obtain ⟨a, ha⟩ := h.2.2.2.2.2 q hq
    exact ⟨a, vk_R.warm hW ha⟩⟩
theorem XE.same {u U : State} (hv : U.vm = u.vm) (h : XE u) : XE U :=
  ⟨va_Nw.same rfl hv.symm h.1, va_Nw.same rfl hv.symm h.2.1, va_Nw.same rfl hv.symm h.2.2.1, h.2.2.2.1.moved (by rw [hv]; exact Vm.Alike.refl u.vm), ⟨va_Nw.same rfl hv.symm h.2.2.2.2.1.1, va_Nw.same rfl hv.symm h.2.2.2.2.1.2.1, va_Nw.same rfl hv.symm h.2.2.2.2.1.2.2⟩, fun q hq => by
    obtain ⟨a, ha⟩ := h.2.2.2.2.2 q hq
    exact ⟨a, vk_R.same hv ha⟩⟩
abbrev KPreX (G : GG) (wc : va_W) (sz : Nat) : State → Prop := fun U => KPre G wc sz U ∧ XE U ∧ XZ (va_A wc sz) U U.heap
abbrev QXI (G : GG) (A : Nat → Prop) (k r : Int32) (wc' : va_W) : Array Value → State → Outcome → State → Prop := va_Qi (fun (r' : Int32) (_ : Unit) => k = 0 ∧ r' = r) (KB G A wc') A
abbrev XQ (G : GG) (A : Nat → Prop) (k : Int32) (wc : va_W) (E1 E2 : String) : String → State → State → Prop := vx_X (fun (_ : Unit) => True) (fun (E : String) (_ : Unit) (t : State) => (¬ k = 0 ∧ E = (if k = 1 then E1 else E2)) ∧ KB G A wc () t) A
/-- a method that answers r (k = 0), the cells wc become wc', or throws (k = 1: E1, else E2), the cells as they were -/
def CX (l : Launch) (G : GG) (y : MethodName) (wsy : List Cond) (rm : Room) (av : List Value) (wc : va_W) (k r : Int32) (wc' : va_W) (E1 E2 : String) : Prop :=
  ∀ sz : Nat, vx_Met l y wsy rm (va_Pc av (KPreX G wc sz)) (QXI G (va_A wc sz) k r wc') (XQ G (va_A wc sz) k wc E1 E2) 1 6 (va_A wc sz)
theorem CX_of {l : Launch} {G : GG} {y : MethodName} {ws ws' : List Cond} {rm : Room} {av : List Value} {wc wc' : va_W} {k r : Int32} {E1 E2 : String} {cc : ByteArray} {maxL : Nat} {ret : Option FieldType} {own : String}
    (hy : plainName y.cls = true) (hw : ws = Cond.code y cc maxL ret :: ws') (hown : y.cls = own) (hL : (lg_sl av).length ≤ maxL)
    (body : ∀ (p : Program) (e : Env) (s : State) (m : MethodId) (args : Array Value) (below : List Frame) (meth : Method) (c : Code) (A : Nat → Prop), CallFix p m c cc maxL s args ws own → Kn G s → meth.sig.returnType = ret → meth.locks = false → (∀ x ∈ c.exceptionTable.toList, False) → XE s → XZ A s s.heap → Wd G A s.heap wc s.heap [] →
      ∀ ls : Array Slot, lv_has ls maxL (lv_args 0 av) → W p l e rm s m args below meth c s.heap [] 0 0 (vx_MQ below (QXI G A k r wc') (XQ G A k wc E1 E2) args s 1 6 A) (F0 m 0 ls [])) : CX l G y ws rm av wc k r wc' E1 E2 := by
  intro sz
  refine vx_ofW (cc := cc) (maxL := maxL) (ret := ret) hy hw ?_
  intro p e s m args below meth c s₁ B hml hex hv
  obtain ⟨rfl, ⟨hsz, hP, hK, hD0⟩, hXE, hXZ⟩ := hv
  subst hsz
  have hts := atoms_spec (ws := ws) B.pre
  have ho : s.vm.findClass own = some m.cls := by rw [← hown]; exact findClass_of_methodNamed B.named
  rw [lg_entry_eq]
  exact body p e s m _ below meth c (va_A wc s.heap.size) ⟨B.exec, B.bytes, hml, ho, hts⟩ hK B.returns B.notSynchronized hex hXE hXZ ⟨hP, hD0.self, va_S.rf, fun q h => Or.inr h⟩ _ (lv_entry av hL)
theorem xb_nIAE : ∀ w ∈ (vx_atS RX4 48 nIAE xNames).filter (fun w => !goodWord w), w ∈ [Cond.castable nIAE nIAE, xD "java/lang/RuntimeException", xD "java/lang/Exception", xD "java/lang/Throwable"] := by decide +kernel
theorem xb_nISE : ∀ w ∈ (vx_atS RX4 82 nISE xNames).filter (fun w => !goodWord w), w ∈ [Cond.castable nISE nISE, xD "java/lang/RuntimeException", xD "java/lang/Exception", xD "java/lang/Throwable"] := by decide +kernel
theorem xb_nIOB : ∀ w ∈ (vx_atS RX4 110 nIOB xNames).filter (fun w => !goodWord w), w ∈ [Cond.castable nIOB nIOB, xD "java/lang/RuntimeException", xD "java/lang/Exception", xD "java/lang/Throwable"] := by decide +kernel
theorem xg_nIAE : ∀ w ∈ Cond.classLink RX4 44 nIAE :: Cond.initialized nIAE :: vx_atS RX4 48 nIAE xNames, vx_ot w = true := by decide +kernel
theorem xg_nISE : ∀ w ∈ Cond.classLink RX4 78 nISE :: Cond.initialized nISE :: vx_atS RX4 82 nISE xNames, vx_ot w = true := by decide +kernel
theorem xg_nIOB : ∀ w ∈ Cond.classLink RX4 106 nIOB :: Cond.initialized nIOB :: vx_atS RX4 110 nIOB xNames, vx_ot w = true := by decide +kernel
section XROWS
variable {p : Program} {l : Launch} {e : Env} {R : Room} {s : State} {m : MethodId} {args : Array Value} {below : List Frame} {meth : Method} {c : Code} {H : Heap} {locs : List Loc} {cells slots : Nat} {Q : State → Prop}
variable {cc : ByteArray} {nL : Nat} {Ts : List Cond} {own : String} {pc : Nat} {ls : Array Slot} {rest : List Value} {G : GG} {A : Nat → Prop} {a : Nat} {ws : va_W} {H0 : Heap}
theorem kx_throw (hst : l.stackTraces = false) (S : CallFix p m c cc nL s args Ts own) (hlk : meth.locks = false) (hex : ∀ x ∈ c.exceptionTable.toList, False) (hXE : XE s) (hXZ : XZ A s s.heap) (hK : Kn G s) (hW : Wd G A s.heap ws H locs) (is : List Nat) {wc : va_W} (hn : va_nd is = true) (hs : is.map (fun i => ws[i]?) = wc.map some)
    {ik ix ic sa : Nat} {cls text : String} (hcls : Bundle.fit cls = true) (hk1 : Cond.classLink own ik cls ∈ Ts) (hk2 : Cond.initialized cls ∈ Ts) (hstr : vk_R own ix text sa s) (hgw : ∀ w ∈ (vx_atS own ic cls xNames).filter goodWord, w ∈ Ts) (hbw : ∀ w ∈ (vx_atS own ic cls xNames).filter (fun w => !goodWord w), w ∈ [Cond.castable cls cls, xD "java/lang/RuntimeException", xD "java/lang/Exception", xD "java/lang/Throwable"]) (hc9 : va_Nw (.castable cls cls) s)
    (hgood : ∀ w ∈ Cond.classLink own ik cls :: Cond.initialized cls :: vx_atS own ic cls xNames, vx_ot w = true) (hsl : ls.size = nL)
    (d0 : decode cc pc = .ok (.new ik, 3)) (d3 : decode cc (pc + 3) = .ok (.dup, 1)) (d4 : decode cc (pc + 4) = .ok (.ldc ix, 2)) (d6 : decode cc (pc + 6) = .ok (.invokespecial ic, 3)) (d9 : decode cc (pc + 9) = .ok (.athrow, 1))
    (hfr : Nat.ble 6 R.frames = true) (hlo : Nat.ble ((rest.map fun v => v.category).sum + 82) R.locals = true) (hRc : Nat.ble (cells + 1) R.cells = true) (hRs : Nat.ble (slots + 6) R.slots = true) (hc : Nat.ble (cells + 1) 1 = true) (hs6 : Nat.ble (slots + 6) 6 = true)
    {k r : Int32} {wc' : va_W} {E1 E2 : String} (hk0 : ¬ k = 0) (hE : cls = (if k = 1 then E1 else E2)) : W p l e R s m args below meth c H locs cells slots (vx_MQ below (QXI G A k r wc') (XQ G A k wc E1 E2) args s 1 6 A) (F0 m pc ls rest) := by
  have h2 := hW.re is hn hs
  refine vx_throwS S.1 S.2.1 hst (names := xNames) S.2.2.2.1 hcls (by decide +kernel) (S.2.2.2.2 _ hk1) (S.2.2.2.2 _ hk2) hstr (vx_hat (fun w h => S.2.2.2.2 _ (hgw w h)) hbw (vx_c (va_Nw.use rfl hc9) (vx_c (va_Nw.use rfl hXE.2.2.2.2.1.1) (vx_c (va_Nw.use rfl hXE.2.2.2.2.1.2.1) (vx_c (va_Nw.use rfl hXE.2.2.2.2.1.2.2) vx_n))))) hgood hXZ.1 hXZ.2 hW.2.2.1 (hsl.trans S.2.2.1.symm) d0 d3 d4 d6 d9 (fun x hx => (hex x hx).elim)
    (Nat.le_of_ble_eq_true hfr) (Nat.le_of_ble_eq_true hlo) (Nat.le_of_ble_eq_true hRc) (Nat.le_of_ble_eq_true hRs) hlk ?_ hW.2.2.1.2.2 (Nat.le_of_ble_eq_true hc) (Nat.le_of_ble_eq_true hs6)
  intro t hvm hz hq
  refine ⟨(), trivial, ⟨⟨hk0, hE⟩, h2.1.kept (fun j q hj => hq q.1 (h2.1 j q hj).lt), va_K.moved hvm hK, h2.2.1⟩, Nat.le_trans hW.2.2.1.1 hz, fun q h1 h3 => ?_⟩
  rw [hq q (Nat.lt_of_lt_of_le h1 hW.2.2.1.1)]
  exact hW.2.2.1.2.1 q h1 h3
theorem kx_iret (S : CallFix p m c cc nL s args Ts own) (hr : meth.sig.returnType = some .int) (hlk : meth.locks = false) (hK : Kn G s) (hW : Wd G A s.heap ws H locs) (is : List Nat) {wf wc' wc : va_W} (hn : va_nd is = true) (hs : is.map (fun i => ws[i]?) = wf.map some) (hwf : wf = wc') {v k r : Int32} {E1 E2 : String} (hv : v = r) (hk : k = 0) (h1 : Nat.ble cells 1 = true) (h6 : Nat.ble slots 6 = true) (hdg : decode cc pc = .ok (.ireturn, 1)) :
    W p l e R s m args below meth c H locs cells slots (vx_MQ below (QXI G A k r wc') (XQ G A k wc E1 E2) args s 1 6 A) (F0 m pc ls [.int v]) := by
  subst hwf
  subst hv
  have h2 := hW.re is hn hs
  refine W.widen (Nat.le_of_ble_eq_true h1) (Nat.le_of_ble_eq_true h6) (vx_ret ?_)
  exact W.iret S.1 S.2.1 hr (fun t ht hWm => ⟨⟨v, (), rfl, ⟨hk, rfl⟩, by rw [ht]; exact h2.1, va_K.moved hWm.alike hK, h2.2.1⟩, h2.2.2.1.F ht⟩) h2.2.2.1.2.2 hdg hlk
theorem kx_zret (S : CallFix p m c cc nL s args Ts own) (hr : meth.sig.returnType = some .boolean) (hlk : meth.locks = false) (hK : Kn G s) (hW : Wd G A s.heap ws H locs) (is : List Nat) {wf wc' wc : va_W} (hn : va_nd is = true) (hs : is.map (fun i => ws[i]?) = wf.map some) (hwf : wf = wc') {v k : Int32} {r : Bool} {E1 E2 : String} (hv : v = bI r) (hk : k = 0) (h1 : Nat.ble cells 1 = true) (h6 : Nat.ble slots 6 = true) (hdg : decode cc pc = .ok (.ireturn, 1)) :
    W p l e R s m args below meth c H locs cells slots (vx_MQ below (QXI G A k (bI r) wc') (XQ G A k wc E1 E2) args s 1 6 A) (F0 m pc ls [.int v]) := by
  subst hwf
  subst hv
  have h2 := hW.re is hn hs
  refine W.widen (Nat.le_of_ble_eq_true h1) (Nat.le_of_ble_eq_true h6) (vx_ret ?_)
  exact W.zret S.1 S.2.1 hr (nar_bI r) (fun t ht hWm => ⟨⟨bI r, (), rfl, ⟨hk, rfl⟩, by rw [ht]; exact h2.1, va_K.moved hWm.alike hK, h2.2.1⟩, h2.2.2.1.F ht⟩) h2.2.2.1.2.2 hdg hlk
theorem kpreX_blind {wc : va_W} {sz : Nat} {av : List Value} : FrameBlind (va_Pc av (KPreX G wc sz)) := by
  intro a U g mk q
  obtain ⟨q0, ⟨q1, qP, qK, qD⟩, qE, qZ⟩ := q
  exact ⟨q0, ⟨q1, qP, va_K.moved (u := U) (U := U.calling g mk a) (Vm.Alike.refl U.vm) qK, qD⟩, XE.same (u := U) rfl qE, vx_Zq.moved (u := U) (Vm.Alike.refl U.vm) qZ.1, vx_Zq.moved (u := U) (Vm.Alike.refl U.vm) qZ.2⟩
theorem XZ.at {wc : va_W} {U : State} (hW : Wd G A s.heap ws H locs) (hZ : XZ A s s.heap) (hF : ∀ q : Nat, va_A wc H.size q → A q) (hWm : s.WarmedH U.vm) : XZ (va_A wc H.size) U H :=
  ⟨vx_Zq.moved hWm.alike (vx_Zq.narrow (vx_Zq.kept hZ.1 hW.2.2.1.2.1) hF), vx_Zq.moved hWm.alike (vx_Zq.narrow (vx_Zq.kept hZ.2 hW.2.2.1.2.1) hF)⟩
end XROWS
end XKIT
