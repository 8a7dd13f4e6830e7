section CKIT
abbrev QN (G : GG) (A : Nat → Prop) (wc' : (Nat → Nat) → va_W) : Array Value → State → Outcome → State → Prop := va_Qv (fun (_ : Nat → Nat) => True) (fun (u : Nat → Nat) (t : State) => va_P G.1 vwCl (wc' u) t.heap ∧ Kn G t ∧ va_D A (wc' u)) A
/-- a constructor that makes mc cells of ms slots: they come at some addresses u -/
def CN (l : Launch) (G : GG) (y : MethodName) (wsy : List Cond) (rm : Room) (av : List Value) (wc : va_W) (wc' : (Nat → Nat) → va_W) (mc ms : Nat) : Prop :=
  ∀ sz : Nat, Met l y wsy rm (va_Pc av (KPre G wc sz)) (QN G (va_A wc sz) wc') mc ms (va_A wc sz)
theorem CN_of {l : Launch} {G : GG} {y : MethodName} {ws ws' : List Cond} {rm : Room} {av : List Value} {wc : va_W} {wc' : (Nat → Nat) → va_W} {mc ms : Nat} {cc : ByteArray} {maxL : Nat} {ret : Option FieldType} {own : String}
    (hy : plainName y.cls = true) (hw : ws = Cond.code y cc maxL ret :: ws') (hown : y.cls = own) (hL : (lg_sl av).length ≤ maxL)
    (body : ∀ (p : Program) (e : Env) (s : State) (m : MethodId) (args : Array Value) (below : List Frame) (meth : Method) (c : Code) (A : Nat → Prop), CallFix p m c cc maxL s args ws own → Kn G s → meth.sig.returnType = ret → meth.locks = false → meth.name = y.name → Wd G A s.heap wc s.heap [] →
      ∀ ls : Array Slot, lv_has ls maxL (lv_args 0 av) → W p l e rm s m args below meth c s.heap [] 0 0 (MQ below (QN G A wc') args s mc ms A) (F0 m 0 ls [])) : CN l G y ws rm av wc wc' mc ms :=
  kb_of (Qc := fun A => QN G A wc') hy hw hown hL body
section CROWS
variable {p : Program} {l : Launch} {e : Env} {R : Room} {s : State} {m : MethodId} {args : Array Value} {below : List Frame} {meth : Method} {c : Code} {H : Heap} {locs : List Loc} {cells slots : Nat} {Q : State → Prop}
variable {cc : ByteArray} {nL : Nat} {Ts : List Cond} {own : String} {pc : Nat} {ls : Array Slot} {rest : List Value} {G : GG} {A : Nat → Prop} {a : Nat} {ws : va_W} {H0 : Heap}
theorem k_objInit (S : CallFix p m c cc nL s args Ts own) {index : Nat} (h1 : Cond.methodLink own index objectInit ∈ Ts) (h2 : Cond.instanceMethod objectInit ∈ Ts) (h3 : Cond.code objectInit ⟨#[0xb1]⟩ 1 none ∈ Ts) (hsl : ls.size = nL) (hfr : Nat.ble 1 R.frames = true) (hlo : Nat.ble ((rest.map fun v => v.category).sum + 12) R.locals = true) (hdg : decode cc pc = .ok (.invokespecial index, 3))
    (kk : W p l e R s m args below meth c H locs cells slots Q (F0 m (pc + 3) ls rest)) : W p l e R s m args below meth c H locs cells slots Q (F0 m pc ls (.ref a :: rest)) :=
  W.objInit S.1 S.2.1 S.2.2.2.1 (S.2.2.2.2 _ h1) (S.2.2.2.2 _ h2) (S.2.2.2.2 _ h3) rfl (hsl.trans S.2.2.1.symm) rfl hdg (Nat.le_of_ble_eq_true hfr) (by
    have h9 := Nat.le_of_ble_eq_true hlo
    show 2 * 0 + _ + 12 ≤ _
    omega) kk
theorem ka_int {D : va_G} {cl : List vw_C} {tys : List (ClassId × FieldType)} {U : State} (hK : va_K D cl tys U) {i j : Nat} {cA cB : ClassId} (hi : tys[i]? = some (cA, .int)) (hj : tys[j]? = some (cB, .int)) : cA = cB := by
  have h1 := (hK.2 i _ hi).2
  have h2 := (hK.2 j _ hj).2
  exact Option.some.inj (h1.symm.trans h2)
theorem ka_bool {D : va_G} {cl : List vw_C} {tys : List (ClassId × FieldType)} {U : State} (hK : va_K D cl tys U) {i j : Nat} {cA cB : ClassId} (hi : tys[i]? = some (cA, .boolean)) (hj : tys[j]? = some (cB, .boolean)) : cA = cB := by
  have h1 := (hK.2 i _ hi).2
  have h2 := (hK.2 j _ hj).2
  exact Option.some.inj (h1.symm.trans h2)
theorem k_newaI (S : CallFix p m c cc nL s args Ts own) (hK : Kn G s) (hW : Wd G A H0 ws H locs) (harr : Cond.arrayClass .int ∈ Ts) {n : Int32} (N : Nat) (hn : ¬ n < 0) (hN : n.toNatClampNeg = N) (hbytes : Nat.ble (N * 4) 536870912 = true) (hcells : Nat.ble (cells + 1) R.cells = true) (hslots : Nat.ble (slots + N) R.slots = true) (hdg : decode cc pc = .ok (.newarray .int, 2))
    (kk : ∀ (q : Nat) (H1 : Heap), Wd G A H0 (ws ++ [aI G q N (fun _ => 0)]) H1 locs → W p l e R s m args below meth c H1 locs (cells + 1) (slots + N) Q (F0 m (pc + 2) ls (.ref q :: rest))) : W p l e R s m args below meth c H locs cells slots Q (F0 m pc ls (.int n :: rest)) := by
  refine va_newa (atype := .int) (D := G.1) (cl := vwCl) (ty := .int) (a0 := (N, .inl (fun _ => 0))) S.1 S.2.1 (S.2.2.2.2 _ harr) rfl hK hW.1 hW.2.1 hW.2.2.1 hW.2.2.2 (fun cA => rfl) hn hN (Nat.le_of_ble_eq_true hbytes) (Nat.le_of_ble_eq_true hcells) (Nat.le_of_ble_eq_true hslots) hdg (fun q cA H1 hK1 hP hD hS => ?_)
  have e9 : cA = G.2.1 := ka_int hK1 (i := 2) (j := 0) rfl rfl
  subst e9
  exact kk q H1 ⟨hP, hD, hS, hW.2.2.2⟩
theorem k_newaZ (S : CallFix p m c cc nL s args Ts own) (hK : Kn G s) (hW : Wd G A H0 ws H locs) (harr : Cond.arrayClass .boolean ∈ Ts) {n : Int32} (N : Nat) (hn : ¬ n < 0) (hN : n.toNatClampNeg = N) (hbytes : Nat.ble (N * 1) 536870912 = true) (hcells : Nat.ble (cells + 1) R.cells = true) (hslots : Nat.ble (slots + N) R.slots = true) (hdg : decode cc pc = .ok (.newarray .boolean, 2))
    (kk : ∀ (q : Nat) (H1 : Heap), Wd G A H0 (ws ++ [aZ G q N (fun _ => false)]) H1 locs → W p l e R s m args below meth c H1 locs (cells + 1) (slots + N) Q (F0 m (pc + 2) ls (.ref q :: rest))) : W p l e R s m args below meth c H locs cells slots Q (F0 m pc ls (.int n :: rest)) := by
  refine va_newa (atype := .boolean) (D := G.1) (cl := vwCl) (ty := .boolean) (a0 := (N, .inl (fun _ => bI false))) S.1 S.2.1 (S.2.2.2.2 _ harr) rfl hK hW.1 hW.2.1 hW.2.2.1 hW.2.2.2 (fun cA => rfl) hn hN (Nat.le_of_ble_eq_true hbytes) (Nat.le_of_ble_eq_true hcells) (Nat.le_of_ble_eq_true hslots) hdg (fun q cA H1 hK1 hP hD hS => ?_)
  have e9 : cA = G.2.2.1 := ka_bool hK1 (i := 2) (j := 1) rfl rfl
  subst e9
  exact kk q H1 ⟨hP, hD, hS, hW.2.2.2⟩
theorem k_new (S : CallFix p m c cc nL s args Ts own) (hK : Kn G s) (hW : Wd G A H0 ws H locs) {C : String} {T : u_T} {N ci index : Nat} (hin : ∀ w ∈ u_ws C T N, w ∈ Ts) {ty : Nat → FieldType} (hty : ∀ k, k < N → parseFieldDescriptor (T k).2.2.1 = some (ty k)) (hcl : Cond.classLink own index C ∈ Ts) (hinst : Cond.instantiable C N ∈ Ts) (hini : Cond.initialized C ∈ Ts) (hc : vwCl[ci]? = some (C, T, N)) {fs : List Value} (hfs : ∀ j, j < N → defaultValue (ty j) = vp_V fs j)
    (hcells : Nat.ble (cells + 1) R.cells = true) (hslots : Nat.ble (slots + N) R.slots = true) (hdg : decode cc pc = .ok (.new index, 3))
    (kk : ∀ (q : Nat) (H1 : Heap), Wd G A H0 (ws ++ [(q, .inr (ci, fs))]) H1 locs → W p l e R s m args below meth c H1 locs (cells + 1) (slots + N) Q (F0 m (pc + 3) ls (.ref q :: rest))) : W p l e R s m args below meth c H locs cells slots Q (F0 m pc ls rest) :=
  va_new (D := G.1) (cl := vwCl) S.1 S.2.1 S.2.2.2.2 hin ty hty S.2.2.2.1 (S.2.2.2.2 _ hcl) (S.2.2.2.2 _ hinst) (S.2.2.2.2 _ hini) hK hW.1 hW.2.1 hW.2.2.1 hW.2.2.2 hc hfs (Nat.le_of_ble_eq_true hcells) (Nat.le_of_ble_eq_true hslots) hdg (fun q H1 hP hD hS => kk q H1 ⟨hP, hD, hS, hW.2.2.2⟩)
theorem k_nret (S : CallFix p m c cc nL s args Ts own) (hr : meth.sig.returnType = none) (hlk : meth.locks = false) (hK : Kn G s) (hW : Wd G A s.heap ws H locs) (is : List Nat) {wc' : (Nat → Nat) → va_W} (u : Nat → Nat) (hn : va_nd is = true) (hs : is.map (fun i => ws[i]?) = (wc' u).map some) {mc ms : Nat} (h1 : Nat.ble cells mc = true) (h2 : Nat.ble slots ms = true) (hdg : decode cc pc = .ok (.return_, 1)) :
    W p l e R s m args below meth c H locs cells slots (MQ below (QN G A wc') args s mc ms A) (F0 m pc ls []) := by
  have h3 := hW.re is hn hs
  refine W.widen (Nat.le_of_ble_eq_true h1) (Nat.le_of_ble_eq_true h2) ?_
  exact W.vret S.1 S.2.1 hr (fun t ht hWm => ⟨⟨u, rfl, trivial, by rw [ht]; exact h3.1, va_K.moved hWm.alike hK, h3.2.1⟩, h3.2.2.1.F ht⟩) h3.2.2.1.2.2 hdg hlk
section CCALLS
variable {index maxL : Nat} {y : MethodName} {bytes : ByteArray} {wsy wsy' : List Cond} {rm : Room} {st : List Value} {b : Nat} {wc wr : va_W}
theorem k_callIv {wc' : va_W} (hC : CV l G y wsy rm [.ref b] wc wc') (S : CallFix p m c cc nL s args Ts own) (hK : Kn G s) (hW : Wd G A H0 ws H locs) (hG : GoodIn Ts wsy) (hwy : wsy = Cond.code y bytes maxL none :: wsy') (hrm : rm.cells = 0 ∧ rm.slots = 0) (hini : Cond.initialized y.cls ∈ Ts) (hl : Cond.methodLink own index y ∈ Ts) (hin : Cond.instanceMethod y ∈ Ts) (hy1 : y.name = "<init>")
    (hd : y.cls ≠ "java/lang/invoke/MethodHandle" ∧ y.cls ≠ "java/lang/invoke/VarHandle" ∧ (parseMethodDescriptor y.desc).map (fun d => d.parameters.length) = some 0) (hR : Nat.ble (rm.frames + 1) R.frames = true ∧ Nat.ble (8 + (maxL + 11) + rm.locals) R.locals = true)
    (isC isR : List Nat) (h1 : isC.map (fun i => ws[i]?) = wc.map some) (h2 : isR.map (fun i => ws[i]?) = wr.map some) (hnC : va_nd isC = true) (hnR : va_nd isR = true) (hdis : ∀ i ∈ isR, i ∉ isC)
    (hsl : ls.size = nL) (hro : Nat.ble ((rest.map fun v => v.category).sum) 8 = true) (hdg : decode cc pc = .ok (.invokespecial index, 3)) (hf : Nat.ble cells R.cells = true ∧ Nat.ble slots R.slots = true)
    (kk : ∀ (H1 : Heap) (locs1 : List Loc), Wd G A H0 (wr ++ wc') H1 locs1 → W p l e R s m args below meth c H1 locs1 cells slots Q (F0 m (pc + 3) ls rest)) : W p l e R s m args below meth c H locs cells slots Q (F0 m pc ls (.ref b :: rest)) := by
  obtain ⟨hPc, hDc, hFc⟩ := hW.cut isC h1 hnC
  refine va_callv (va_runI (As := []) (rest := rest) S (hC H.size) (cwI 0 S.2.2.2.2 hG hwy hrm.1 hrm.2 (S.2.2.2.2 _ hini) (S.2.2.2.2 _ hl) (S.2.2.2.2 _ hin) hy1 hd ⟨Nat.le_of_ble_eq_true hR.1, Nat.le_of_ble_eq_true hR.2⟩) ⟨kpre_blind, fun U hU hWm => ⟨rfl, by rw [hU], by rw [hU]; exact hPc, va_K.moved hWm.alike hK, hDc⟩⟩ rfl rfl hsl rfl (lv_room (Nat.le_of_ble_eq_true hro)) hdg ⟨Nat.le_of_ble_eq_true hf.1, Nat.le_of_ble_eq_true hf.2⟩) hW.2.2.1 (fun q _ h => hFc q h) hFc (fun u t H1 locs1 ht hvm hw hB hz1 hk1 hS => ?_)
  obtain ⟨hP1, hK1, hD1⟩ := hB
  rw [ht] at hP1
  exact kk H1 locs1 (hW.join isC isR h1 h2 hnR hdis hFc hk1 hS hP1 hD1)
theorem k_callIn {wc' : (Nat → Nat) → va_W} {mc ms : Nat} (hC : CN l G y wsy rm [.ref b] wc wc' mc ms) (S : CallFix p m c cc nL s args Ts own) (hK : Kn G s) (hW : Wd G A H0 ws H locs) (hG : GoodIn Ts wsy) (hwy : wsy = Cond.code y bytes maxL none :: wsy') (hrm : rm.cells = mc ∧ rm.slots = ms) (hini : Cond.initialized y.cls ∈ Ts) (hl : Cond.methodLink own index y ∈ Ts) (hin : Cond.instanceMethod y ∈ Ts) (hy1 : y.name = "<init>")
    (hd : y.cls ≠ "java/lang/invoke/MethodHandle" ∧ y.cls ≠ "java/lang/invoke/VarHandle" ∧ (parseMethodDescriptor y.desc).map (fun d => d.parameters.length) = some 0) (hR : Nat.ble (rm.frames + 1) R.frames = true ∧ Nat.ble (8 + (maxL + 11) + rm.locals) R.locals = true)
    (isC isR : List Nat) (h1 : isC.map (fun i => ws[i]?) = wc.map some) (h2 : isR.map (fun i => ws[i]?) = wr.map some) (hnC : va_nd isC = true) (hnR : va_nd isR = true) (hdis : ∀ i ∈ isR, i ∉ isC)
    (hsl : ls.size = nL) (hro : Nat.ble ((rest.map fun v => v.category).sum) 8 = true) (hdg : decode cc pc = .ok (.invokespecial index, 3)) (hf : Nat.ble (cells + mc) R.cells = true ∧ Nat.ble (slots + ms) R.slots = true)
    (kk : ∀ (u : Nat → Nat) (H1 : Heap) (locs1 : List Loc), Wd G A H0 (wr ++ wc' u) H1 locs1 → W p l e R s m args below meth c H1 locs1 (cells + mc) (slots + ms) Q (F0 m (pc + 3) ls rest)) : W p l e R s m args below meth c H locs cells slots Q (F0 m pc ls (.ref b :: rest)) := by
  obtain ⟨hPc, hDc, hFc⟩ := hW.cut isC h1 hnC
  refine va_callv (va_runI (As := []) (rest := rest) S (hC H.size) (cwI 0 S.2.2.2.2 hG hwy hrm.1 hrm.2 (S.2.2.2.2 _ hini) (S.2.2.2.2 _ hl) (S.2.2.2.2 _ hin) hy1 hd ⟨Nat.le_of_ble_eq_true hR.1, Nat.le_of_ble_eq_true hR.2⟩) ⟨kpre_blind, fun U hU hWm => ⟨rfl, by rw [hU], by rw [hU]; exact hPc, va_K.moved hWm.alike hK, hDc⟩⟩ rfl rfl hsl rfl (lv_room (Nat.le_of_ble_eq_true hro)) hdg ⟨Nat.le_of_ble_eq_true hf.1, Nat.le_of_ble_eq_true hf.2⟩) hW.2.2.1 (fun q _ h => hFc q h) hFc (fun u t H1 locs1 ht hvm hw hB hz1 hk1 hS => ?_)
  obtain ⟨hP1, hK1, hD1⟩ := hB
  rw [ht] at hP1
  exact kk u H1 locs1 (hW.join isC isR h1 h2 hnR hdis hFc hk1 hS hP1 hD1)
end CCALLS
end CROWS
end CKIT
set_option maxRecDepth 100000 in
theorem k_X2_init_ml1 : Cond.methodLink RX2 1 objectInit ∈ wsX2_init := by decide +kernel
set_option maxRecDepth 100000 in
theorem k_X2_init_oi : Cond.instanceMethod objectInit ∈ wsX2_init := by decide +kernel
set_option maxRecDepth 100000 in
theorem k_X2_init_oc : Cond.code objectInit ⟨#[0xb1]⟩ 1 none ∈ wsX2_init := by decide +kernel
set_option maxRecDepth 100000 in
theorem k_X2_init_f7 : Cond.fieldLink RX2 7 "FlexiblePolicy$Plan" "startAge" "I" ∈ wsX2_init := by decide +kernel
set_option maxRecDepth 100000 in
theorem k_X2_init_in2 : ∀ w ∈ u_ws RX2 TX2 3, w ∈ wsX2_init := by decide +kernel
set_option maxRecDepth 100000 in
theorem k_X2_init_c13 : Cond.constant RX2 13 (5000000) ∈ wsX2_init := by decide +kernel
set_option maxRecDepth 100000 in
theorem k_X2_init_f14 : Cond.fieldLink RX2 14 "FlexiblePolicy$Plan" "insured" "I" ∈ wsX2_init := by decide +kernel
set_option maxRecDepth 100000 in
theorem k_X2_init_f17 : Cond.fieldLink RX2 17 "FlexiblePolicy$Plan" "kind" "I" ∈ wsX2_init := by decide +kernel
theorem nd_X2_init : yX2_init.cls ≠ "java/lang/invoke/MethodHandle" ∧ yX2_init.cls ≠ "java/lang/invoke/VarHandle" ∧ (parseMethodDescriptor yX2_init.desc).map (fun d => d.parameters.length) = some 0 := by decide +kernel
abbrev rm_X2_init : Room := { frames := 1, cells := 0, slots := 0, locals := 20 }
set_option maxHeartbeats 4000000 in
set_option maxRecDepth 100000 in
theorem c_X2_init (l : Launch) (G : GG) (b : Nat) : CV l G yX2_init wsX2_init rm_X2_init [.ref b] [(b, .inr (2, [.int 0, .int 0, .int 0]))] [(b, .inr (2, [.int 30, .int 5000000, .int 0]))] := by
  refine CV_of (own := RX2) (by decide +kernel) rfl rfl (Nat.le_of_ble_eq_true rfl) ?_
  intro pP eE sS mM args below meth cC A S hK hr hlk hmn hW ls hl
  have hx := S.1
  have hb := S.2.1
  have hl : lv_has ls 1 [(0, .ref b)] := hl
  have hW : Wd G A sS.heap [(b, .inr (2, [.int 0, .int 0, .int 0]))] sS.heap [] := hW
  refine lv_aload_n hx hb dX2_init_0 rfl (lv_at hl 0 rfl) ?_
  refine k_objInit S k_X2_init_ml1 k_X2_init_oi k_X2_init_oc hl.1 rfl rfl dX2_init_1 ?_
  refine lv_aload_n hx hb dX2_init_4 rfl (lv_at hl 0 rfl) ?_
  refine lv_bipush (v := 30) hx hb dX2_init_5 (by decide) ?_
  refine k_put (C := RX2) (T := TX2) (N := 3) (ci := 2) (v := .int 30) (ws' := [(b, .inr (2, [.int 30, .int 0, .int 0]))]) S hK hW k_X2_init_in2 tyX2_ok nmX2 0 0 rfl rfl (by decide) k_X2_init_f7 rfl rfl rfl rfl rfl dX2_init_7 (fun H locs hW => ?_)
  refine lv_aload_n hx hb dX2_init_10 rfl (lv_at hl 0 rfl) ?_
  refine k_ldc S k_X2_init_c13 dX2_init_11 ?_
  refine k_put (C := RX2) (T := TX2) (N := 3) (ci := 2) (v := .int 5000000) (ws' := [(b, .inr (2, [.int 30, .int 5000000, .int 0]))]) S hK hW k_X2_init_in2 tyX2_ok nmX2 0 1 rfl rfl (by decide) k_X2_init_f14 rfl rfl rfl rfl rfl dX2_init_13 (fun H locs hW => ?_)
  refine lv_aload_n hx hb dX2_init_16 rfl (lv_at hl 0 rfl) ?_
  refine lv_iconst (v := 0) hx hb dX2_init_17 (by decide) ?_
  refine k_put (C := RX2) (T := TX2) (N := 3) (ci := 2) (v := .int 0) (ws' := [(b, .inr (2, [.int 30, .int 5000000, .int 0]))]) S hK hW k_X2_init_in2 tyX2_ok nmX2 0 2 rfl rfl (by decide) k_X2_init_f17 rfl rfl rfl rfl rfl dX2_init_18 (fun H locs hW => ?_)
  exact k_vret (wf := [(b, .inr (2, [.int 30, .int 5000000, .int 0]))]) S hr hlk hK hW [0] rfl rfl rfl dX2_init_21
set_option maxRecDepth 100000 in
theorem k_X3_init_ml3 : Cond.methodLink RX3 3 objectInit ∈ wsX3_init := by decide +kernel
set_option maxRecDepth 100000 in
theorem k_X3_init_oi : Cond.instanceMethod objectInit ∈ wsX3_init := by decide +kernel
set_option maxRecDepth 100000 in
theorem k_X3_init_oc : Cond.code objectInit ⟨#[0xb1]⟩ 1 none ∈ wsX3_init := by decide +kernel
set_option maxRecDepth 100000 in
theorem k_X3_init_f9 : Cond.fieldLink RX3 9 "FlexiblePolicy$Standing" "state" "I" ∈ wsX3_init := by decide +kernel
set_option maxRecDepth 100000 in
theorem k_X3_init_in3 : ∀ w ∈ u_ws RX3 TX3 7, w ∈ wsX3_init := by decide +kernel
theorem nd_X3_init : yX3_init.cls ≠ "java/lang/invoke/MethodHandle" ∧ yX3_init.cls ≠ "java/lang/invoke/VarHandle" ∧ (parseMethodDescriptor yX3_init.desc).map (fun d => d.parameters.length) = some 0 := by decide +kernel
abbrev rm_X3_init : Room := { frames := 1, cells := 0, slots := 0, locals := 20 }
set_option maxHeartbeats 4000000 in
set_option maxRecDepth 100000 in
theorem c_X3_init (l : Launch) (G : GG) (b : Nat) : CV l G yX3_init wsX3_init rm_X3_init [.ref b] [(b, .inr (3, [.int 0, .int 0, .int 0, .int 0, .int 0, .int 0, .int 0]))] [(b, .inr (3, [.int 0, .int 0, .int 0, .int 0, .int 0, .int 0, .int 0]))] := by
  refine CV_of (own := RX3) (by decide +kernel) rfl rfl (Nat.le_of_ble_eq_true rfl) ?_
  intro pP eE sS mM args below meth cC A S hK hr hlk hmn hW ls hl
  have hx := S.1
  have hb := S.2.1
  have hl : lv_has ls 1 [(0, .ref b)] := hl
  have hW : Wd G A sS.heap [(b, .inr (3, [.int 0, .int 0, .int 0, .int 0, .int 0, .int 0, .int 0]))] sS.heap [] := hW
  refine lv_aload_n hx hb dX3_init_0 rfl (lv_at hl 0 rfl) ?_
  refine k_objInit S k_X3_init_ml3 k_X3_init_oi k_X3_init_oc hl.1 rfl rfl dX3_init_1 ?_
  refine lv_aload_n hx hb dX3_init_4 rfl (lv_at hl 0 rfl) ?_
  refine lv_iconst (v := 0) hx hb dX3_init_5 (by decide) ?_
  refine k_put (C := RX3) (T := TX3) (N := 7) (ci := 3) (v := .int 0) (ws' := [(b, .inr (3, [.int 0, .int 0, .int 0, .int 0, .int 0, .int 0, .int 0]))]) S hK hW k_X3_init_in3 tyX3_ok nmX3 0 0 rfl rfl (by decide) k_X3_init_f9 rfl rfl rfl rfl rfl dX3_init_6 (fun H locs hW => ?_)
  exact k_vret (wf := [(b, .inr (3, [.int 0, .int 0, .int 0, .int 0, .int 0, .int 0, .int 0]))]) S hr hlk hK hW [0] rfl rfl rfl dX3_init_9
set_option maxRecDepth 100000 in
theorem k_X0_init_ml3 : Cond.methodLink RX0 3 objectInit ∈ wsX0_init := by decide +kernel
set_option maxRecDepth 100000 in
theorem k_X0_init_oi : Cond.instanceMethod objectInit ∈ wsX0_init := by decide +kernel
set_option maxRecDepth 100000 in
theorem k_X0_init_oc : Cond.code objectInit ⟨#[0xb1]⟩ 1 none ∈ wsX0_init := by decide +kernel
set_option maxRecDepth 100000 in
theorem k_X0_init_f9 : Cond.fieldLink RX0 9 "FlexiblePolicy$ActBook" "count" "I" ∈ wsX0_init := by decide +kernel
set_option maxRecDepth 100000 in
theorem k_X0_init_in0 : ∀ w ∈ u_ws RX0 TX0 6, w ∈ wsX0_init := by decide +kernel
set_option maxRecDepth 100000 in
theorem k_X0_init_acI : Cond.arrayClass .int ∈ wsX0_init := by decide +kernel
set_option maxRecDepth 100000 in
theorem k_X0_init_f15 : Cond.fieldLink RX0 15 "FlexiblePolicy$ActBook" "months" "[I" ∈ wsX0_init := by decide +kernel
set_option maxRecDepth 100000 in
theorem k_X0_init_f19 : Cond.fieldLink RX0 19 "FlexiblePolicy$ActBook" "kinds" "[I" ∈ wsX0_init := by decide +kernel
set_option maxRecDepth 100000 in
theorem k_X0_init_f22 : Cond.fieldLink RX0 22 "FlexiblePolicy$ActBook" "amounts" "[I" ∈ wsX0_init := by decide +kernel
set_option maxRecDepth 100000 in
theorem k_X0_init_acZ : Cond.arrayClass .boolean ∈ wsX0_init := by decide +kernel
set_option maxRecDepth 100000 in
theorem k_X0_init_f25 : Cond.fieldLink RX0 25 "FlexiblePolicy$ActBook" "struck" "[Z" ∈ wsX0_init := by decide +kernel
set_option maxRecDepth 100000 in
theorem k_X0_init_f29 : Cond.fieldLink RX0 29 "FlexiblePolicy$ActBook" "done" "[Z" ∈ wsX0_init := by decide +kernel
theorem nd_X0_init : yX0_init.cls ≠ "java/lang/invoke/MethodHandle" ∧ yX0_init.cls ≠ "java/lang/invoke/VarHandle" ∧ (parseMethodDescriptor yX0_init.desc).map (fun d => d.parameters.length) = some 0 := by decide +kernel
abbrev rm_X0_init : Room := { frames := 1, cells := 5, slots := 300, locals := 20 }
set_option maxHeartbeats 4000000 in
set_option maxRecDepth 100000 in
theorem c_X0_init (l : Launch) (G : GG) (b : Nat) : CN l G yX0_init wsX0_init rm_X0_init [.ref b] [(b, .inr (0, [.int 0, .null, .null, .null, .null, .null]))] (fun u => [(b, .inr (0, [.int 0, .ref (u 0), .ref (u 1), .ref (u 2), .ref (u 3), .ref (u 4)])), aI G (u 0) 60 (fun _ => 0), aI G (u 1) 60 (fun _ => 0), aI G (u 2) 60 (fun _ => 0), aZ G (u 3) 60 (fun _ => false), aZ G (u 4) 60 (fun _ => false)]) 5 300 := by
  refine CN_of (own := RX0) (by decide +kernel) rfl rfl (Nat.le_of_ble_eq_true rfl) ?_
  intro pP eE sS mM args below meth cC A S hK hr hlk hmn hW ls hl
  have hx := S.1
  have hb := S.2.1
  have hl : lv_has ls 1 [(0, .ref b)] := hl
  have hW : Wd G A sS.heap [(b, .inr (0, [.int 0, .null, .null, .null, .null, .null]))] sS.heap [] := hW
  refine lv_aload_n hx hb dX0_init_0 rfl (lv_at hl 0 rfl) ?_
  refine k_objInit S k_X0_init_ml3 k_X0_init_oi k_X0_init_oc hl.1 rfl rfl dX0_init_1 ?_
  refine lv_aload_n hx hb dX0_init_4 rfl (lv_at hl 0 rfl) ?_
  refine lv_iconst (v := 0) hx hb dX0_init_5 (by decide) ?_
  refine k_put (C := RX0) (T := TX0) (N := 6) (ci := 0) (v := .int 0) (ws' := [(b, .inr (0, [.int 0, .null, .null, .null, .null, .null]))]) S hK hW k_X0_init_in0 tyX0_ok nmX0 0 0 rfl rfl (by decide) k_X0_init_f9 rfl rfl rfl rfl rfl dX0_init_6 (fun H locs hW => ?_)
  refine lv_aload_n hx hb dX0_init_9 rfl (lv_at hl 0 rfl) ?_
  refine lv_bipush (v := 60) hx hb dX0_init_10 (by decide) ?_
  refine k_newaI S hK hW k_X0_init_acI 60 (by decide) rfl rfl rfl rfl dX0_init_12 (fun q12 H hW => ?_)
  have hW : Wd G A sS.heap [(b, .inr (0, [.int 0, .null, .null, .null, .null, .null])), aI G q12 60 (fun _ => 0)] H _ := hW
  refine k_putF (C := RX0) (T := TX0) (N := 6) (ci := 0) (v := .ref q12) (ws' := [(b, .inr (0, [.int 0, .ref q12, .null, .null, .null, .null])), aI G q12 60 (fun _ => 0)]) S hmn hK hW k_X0_init_in0 tyX0_ok nmX0 0 1 rfl rfl (by decide) k_X0_init_f15 rfl rfl rfl rfl rfl rfl dX0_init_14 (fun H locs hW => ?_)
  refine lv_aload_n hx hb dX0_init_17 rfl (lv_at hl 0 rfl) ?_
  refine lv_bipush (v := 60) hx hb dX0_init_18 (by decide) ?_
  refine k_newaI S hK hW k_X0_init_acI 60 (by decide) rfl rfl rfl rfl dX0_init_20 (fun q20 H hW => ?_)
  have hW : Wd G A sS.heap [(b, .inr (0, [.int 0, .ref q12, .null, .null, .null, .null])), aI G q12 60 (fun _ => 0), aI G q20 60 (fun _ => 0)] H _ := hW
  refine k_putF (C := RX0) (T := TX0) (N := 6) (ci := 0) (v := .ref q20) (ws' := [(b, .inr (0, [.int 0, .ref q12, .ref q20, .null, .null, .null])), aI G q12 60 (fun _ => 0), aI G q20 60 (fun _ => 0)]) S hmn hK hW k_X0_init_in0 tyX0_ok nmX0 0 2 rfl rfl (by decide) k_X0_init_f19 rfl rfl rfl rfl rfl rfl dX0_init_22 (fun H locs hW => ?_)
  refine lv_aload_n hx hb dX0_init_25 rfl (lv_at hl 0 rfl) ?_
  refine lv_bipush (v := 60) hx hb dX0_init_26 (by decide) ?_
  refine k_newaI S hK hW k_X0_init_acI 60 (by decide) rfl rfl rfl rfl dX0_init_28 (fun q28 H hW => ?_)
  have hW : Wd G A sS.heap [(b, .inr (0, [.int 0, .ref q12, .ref q20, .null, .null, .null])), aI G q12 60 (fun _ => 0), aI G q20 60 (fun _ => 0), aI G q28 60 (fun _ => 0)] H _ := hW
  refine k_putF (C := RX0) (T := TX0) (N := 6) (ci := 0) (v := .ref q28) (ws' := [(b, .inr (0, [.int 0, .ref q12, .ref q20, .ref q28, .null, .null])), aI G q12 60 (fun _ => 0), aI G q20 60 (fun _ => 0), aI G q28 60 (fun _ => 0)]) S hmn hK hW k_X0_init_in0 tyX0_ok nmX0 0 3 rfl rfl (by decide) k_X0_init_f22 rfl rfl rfl rfl rfl rfl dX0_init_30 (fun H locs hW => ?_)
  refine lv_aload_n hx hb dX0_init_33 rfl (lv_at hl 0 rfl) ?_
  refine lv_bipush (v := 60) hx hb dX0_init_34 (by decide) ?_
  refine k_newaZ S hK hW k_X0_init_acZ 60 (by decide) rfl rfl rfl rfl dX0_init_36 (fun q36 H hW => ?_)
  have hW : Wd G A sS.heap [(b, .inr (0, [.int 0, .ref q12, .ref q20, .ref q28, .null, .null])), aI G q12 60 (fun _ => 0), aI G q20 60 (fun _ => 0), aI G q28 60 (fun _ => 0), aZ G q36 60 (fun _ => false)] H _ := hW
  refine k_putF (C := RX0) (T := TX0) (N := 6) (ci := 0) (v := .ref q36) (ws' := [(b, .inr (0, [.int 0, .ref q12, .ref q20, .ref q28, .ref q36, .null])), aI G q12 60 (fun _ => 0), aI G q20 60 (fun _ => 0), aI G q28 60 (fun _ => 0), aZ G q36 60 (fun _ => false)]) S hmn hK hW k_X0_init_in0 tyX0_ok nmX0 0 4 rfl rfl (by decide) k_X0_init_f25 rfl rfl rfl rfl rfl rfl dX0_init_38 (fun H locs hW => ?_)
  refine lv_aload_n hx hb dX0_init_41 rfl (lv_at hl 0 rfl) ?_
  refine lv_bipush (v := 60) hx hb dX0_init_42 (by decide) ?_
  refine k_newaZ S hK hW k_X0_init_acZ 60 (by decide) rfl rfl rfl rfl dX0_init_44 (fun q44 H hW => ?_)
  have hW : Wd G A sS.heap [(b, .inr (0, [.int 0, .ref q12, .ref q20, .ref q28, .ref q36, .null])), aI G q12 60 (fun _ => 0), aI G q20 60 (fun _ => 0), aI G q28 60 (fun _ => 0), aZ G q36 60 (fun _ => false), aZ G q44 60 (fun _ => false)] H _ := hW
  refine k_putF (C := RX0) (T := TX0) (N := 6) (ci := 0) (v := .ref q44) (ws' := [(b, .inr (0, [.int 0, .ref q12, .ref q20, .ref q28, .ref q36, .ref q44])), aI G q12 60 (fun _ => 0), aI G q20 60 (fun _ => 0), aI G q28 60 (fun _ => 0), aZ G q36 60 (fun _ => false), aZ G q44 60 (fun _ => false)]) S hmn hK hW k_X0_init_in0 tyX0_ok nmX0 0 5 rfl rfl (by decide) k_X0_init_f29 rfl rfl rfl rfl rfl rfl dX0_init_46 (fun H locs hW => ?_)
  exact k_nret S hr hlk hK hW [0, 1, 2, 3, 4, 5] (fun k => [q12, q20, q28, q36, q44].getD k 0) rfl rfl rfl rfl dX0_init_49
set_option maxRecDepth 100000 in
theorem k_X1_init_ml3 : Cond.methodLink RX1 3 objectInit ∈ wsX1_init := by decide +kernel
set_option maxRecDepth 100000 in
theorem k_X1_init_oi : Cond.instanceMethod objectInit ∈ wsX1_init := by decide +kernel
set_option maxRecDepth 100000 in
theorem k_X1_init_oc : Cond.code objectInit ⟨#[0xb1]⟩ 1 none ∈ wsX1_init := by decide +kernel
set_option maxRecDepth 100000 in
theorem k_X1_init_acI : Cond.arrayClass .int ∈ wsX1_init := by decide +kernel
set_option maxRecDepth 100000 in
theorem k_X1_init_f11 : Cond.fieldLink RX1 11 "FlexiblePolicy$History" "states" "[I" ∈ wsX1_init := by decide +kernel
set_option maxRecDepth 100000 in
theorem k_X1_init_in1 : ∀ w ∈ u_ws RX1 TX1 7, w ∈ wsX1_init := by decide +kernel
set_option maxRecDepth 100000 in
theorem k_X1_init_f15 : Cond.fieldLink RX1 15 "FlexiblePolicy$History" "accounts" "[I" ∈ wsX1_init := by decide +kernel
set_option maxRecDepth 100000 in
theorem k_X1_init_f18 : Cond.fieldLink RX1 18 "FlexiblePolicy$History" "loans" "[I" ∈ wsX1_init := by decide +kernel
set_option maxRecDepth 100000 in
theorem k_X1_init_f21 : Cond.fieldLink RX1 21 "FlexiblePolicy$History" "arrearsRows" "[I" ∈ wsX1_init := by decide +kernel
set_option maxRecDepth 100000 in
theorem k_X1_init_f24 : Cond.fieldLink RX1 24 "FlexiblePolicy$History" "graces" "[I" ∈ wsX1_init := by decide +kernel
set_option maxRecDepth 100000 in
theorem k_X1_init_f27 : Cond.fieldLink RX1 27 "FlexiblePolicy$History" "lapsedFroms" "[I" ∈ wsX1_init := by decide +kernel
set_option maxRecDepth 100000 in
theorem k_X1_init_f30 : Cond.fieldLink RX1 30 "FlexiblePolicy$History" "paids" "[I" ∈ wsX1_init := by decide +kernel
theorem nd_X1_init : yX1_init.cls ≠ "java/lang/invoke/MethodHandle" ∧ yX1_init.cls ≠ "java/lang/invoke/VarHandle" ∧ (parseMethodDescriptor yX1_init.desc).map (fun d => d.parameters.length) = some 0 := by decide +kernel
abbrev rm_X1_init : Room := { frames := 1, cells := 7, slots := 847, locals := 20 }
set_option maxHeartbeats 4000000 in
set_option maxRecDepth 100000 in
theorem c_X1_init (l : Launch) (G : GG) (b : Nat) : CN l G yX1_init wsX1_init rm_X1_init [.ref b] [(b, .inr (1, [.null, .null, .null, .null, .null, .null, .null]))] (fun u => [(b, .inr (1, [.ref (u 0), .ref (u 1), .ref (u 2), .ref (u 3), .ref (u 4), .ref (u 5), .ref (u 6)])), aI G (u 0) 121 (fun _ => 0), aI G (u 1) 121 (fun _ => 0), aI G (u 2) 121 (fun _ => 0), aI G (u 3) 121 (fun _ => 0), aI G (u 4) 121 (fun _ => 0), aI G (u 5) 121 (fun _ => 0), aI G (u 6) 121 (fun _ => 0)]) 7 847 := by
  refine CN_of (own := RX1) (by decide +kernel) rfl rfl (Nat.le_of_ble_eq_true rfl) ?_
  intro pP eE sS mM args below meth cC A S hK hr hlk hmn hW ls hl
  have hx := S.1
  have hb := S.2.1
  have hl : lv_has ls 1 [(0, .ref b)] := hl
  have hW : Wd G A sS.heap [(b, .inr (1, [.null, .null, .null, .null, .null, .null, .null]))] sS.heap [] := hW
  refine lv_aload_n hx hb dX1_init_0 rfl (lv_at hl 0 rfl) ?_
  refine k_objInit S k_X1_init_ml3 k_X1_init_oi k_X1_init_oc hl.1 rfl rfl dX1_init_1 ?_
  refine lv_aload_n hx hb dX1_init_4 rfl (lv_at hl 0 rfl) ?_
  refine lv_bipush (v := 121) hx hb dX1_init_5 (by decide) ?_
  refine k_newaI S hK hW k_X1_init_acI 121 (by decide) rfl rfl rfl rfl dX1_init_7 (fun q7 H hW => ?_)
  have hW : Wd G A sS.heap [(b, .inr (1, [.null, .null, .null, .null, .null, .null, .null])), aI G q7 121 (fun _ => 0)] H _ := hW
  refine k_putF (C := RX1) (T := TX1) (N := 7) (ci := 1) (v := .ref q7) (ws' := [(b, .inr (1, [.ref q7, .null, .null, .null, .null, .null, .null])), aI G q7 121 (fun _ => 0)]) S hmn hK hW k_X1_init_in1 tyX1_ok nmX1 0 0 rfl rfl (by decide) k_X1_init_f11 rfl rfl rfl rfl rfl rfl dX1_init_9 (fun H locs hW => ?_)
  refine lv_aload_n hx hb dX1_init_12 rfl (lv_at hl 0 rfl) ?_
  refine lv_bipush (v := 121) hx hb dX1_init_13 (by decide) ?_
  refine k_newaI S hK hW k_X1_init_acI 121 (by decide) rfl rfl rfl rfl dX1_init_15 (fun q15 H hW => ?_)
  have hW : Wd G A sS.heap [(b, .inr (1, [.ref q7, .null, .null, .null, .null, .null, .null])), aI G q7 121 (fun _ => 0), aI G q15 121 (fun _ => 0)] H _ := hW
  refine k_putF (C := RX1) (T := TX1) (N := 7) (ci := 1) (v := .ref q15) (ws' := [(b, .inr (1, [.ref q7, .ref q15, .null, .null, .null, .null, .null])), aI G q7 121 (fun _ => 0), aI G q15 121 (fun _ => 0)]) S hmn hK hW k_X1_init_in1 tyX1_ok nmX1 0 1 rfl rfl (by decide) k_X1_init_f15 rfl rfl rfl rfl rfl rfl dX1_init_17 (fun H locs hW => ?_)
  refine lv_aload_n hx hb dX1_init_20 rfl (lv_at hl 0 rfl) ?_
  refine lv_bipush (v := 121) hx hb dX1_init_21 (by decide) ?_
  refine k_newaI S hK hW k_X1_init_acI 121 (by decide) rfl rfl rfl rfl dX1_init_23 (fun q23 H hW => ?_)
  have hW : Wd G A sS.heap [(b, .inr (1, [.ref q7, .ref q15, .null, .null, .null, .null, .null])), aI G q7 121 (fun _ => 0), aI G q15 121 (fun _ => 0), aI G q23 121 (fun _ => 0)] H _ := hW
  refine k_putF (C := RX1) (T := TX1) (N := 7) (ci := 1) (v := .ref q23) (ws' := [(b, .inr (1, [.ref q7, .ref q15, .ref q23, .null, .null, .null, .null])), aI G q7 121 (fun _ => 0), aI G q15 121 (fun _ => 0), aI G q23 121 (fun _ => 0)]) S hmn hK hW k_X1_init_in1 tyX1_ok nmX1 0 2 rfl rfl (by decide) k_X1_init_f18 rfl rfl rfl rfl rfl rfl dX1_init_25 (fun H locs hW => ?_)
  refine lv_aload_n hx hb dX1_init_28 rfl (lv_at hl 0 rfl) ?_
  refine lv_bipush (v := 121) hx hb dX1_init_29 (by decide) ?_
  refine k_newaI S hK hW k_X1_init_acI 121 (by decide) rfl rfl rfl rfl dX1_init_31 (fun q31 H hW => ?_)
  have hW : Wd G A sS.heap [(b, .inr (1, [.ref q7, .ref q15, .ref q23, .null, .null, .null, .null])), aI G q7 121 (fun _ => 0), aI G q15 121 (fun _ => 0), aI G q23 121 (fun _ => 0), aI G q31 121 (fun _ => 0)] H _ := hW
  refine k_putF (C := RX1) (T := TX1) (N := 7) (ci := 1) (v := .ref q31) (ws' := [(b, .inr (1, [.ref q7, .ref q15, .ref q23, .ref q31, .null, .null, .null])), aI G q7 121 (fun _ => 0), aI G q15 121 (fun _ => 0), aI G q23 121 (fun _ => 0), aI G q31 121 (fun _ => 0)]) S hmn hK hW k_X1_init_in1 tyX1_ok nmX1 0 3 rfl rfl (by decide) k_X1_init_f21 rfl rfl rfl rfl rfl rfl dX1_init_33 (fun H locs hW => ?_)
  refine lv_aload_n hx hb dX1_init_36 rfl (lv_at hl 0 rfl) ?_
  refine lv_bipush (v := 121) hx hb dX1_init_37 (by decide) ?_
  refine k_newaI S hK hW k_X1_init_acI 121 (by decide) rfl rfl rfl rfl dX1_init_39 (fun q39 H hW => ?_)
  have hW : Wd G A sS.heap [(b, .inr (1, [.ref q7, .ref q15, .ref q23, .ref q31, .null, .null, .null])), aI G q7 121 (fun _ => 0), aI G q15 121 (fun _ => 0), aI G q23 121 (fun _ => 0), aI G q31 121 (fun _ => 0), aI G q39 121 (fun _ => 0)] H _ := hW
  refine k_putF (C := RX1) (T := TX1) (N := 7) (ci := 1) (v := .ref q39) (ws' := [(b, .inr (1, [.ref q7, .ref q15, .ref q23, .ref q31, .ref q39, .null, .null])), aI G q7 121 (fun _ => 0), aI G q15 121 (fun _ => 0), aI G q23 121 (fun _ => 0), aI G q31 121 (fun _ => 0), aI G q39 121 (fun _ => 0)]) S hmn hK hW k_X1_init_in1 tyX1_ok nmX1 0 4 rfl rfl (by decide) k_X1_init_f24 rfl rfl rfl rfl rfl rfl dX1_init_41 (fun H locs hW => ?_)
  refine lv_aload_n hx hb dX1_init_44 rfl (lv_at hl 0 rfl) ?_
  refine lv_bipush (v := 121) hx hb dX1_init_45 (by decide) ?_
  refine k_newaI S hK hW k_X1_init_acI 121 (by decide) rfl rfl rfl rfl dX1_init_47 (fun q47 H hW => ?_)
  have hW : Wd G A sS.heap [(b, .inr (1, [.ref q7, .ref q15, .ref q23, .ref q31, .ref q39, .null, .null])), aI G q7 121 (fun _ => 0), aI G q15 121 (fun _ => 0), aI G q23 121 (fun _ => 0), aI G q31 121 (fun _ => 0), aI G q39 121 (fun _ => 0), aI G q47 121 (fun _ => 0)] H _ := hW
  refine k_putF (C := RX1) (T := TX1) (N := 7) (ci := 1) (v := .ref q47) (ws' := [(b, .inr (1, [.ref q7, .ref q15, .ref q23, .ref q31, .ref q39, .ref q47, .null])), aI G q7 121 (fun _ => 0), aI G q15 121 (fun _ => 0), aI G q23 121 (fun _ => 0), aI G q31 121 (fun _ => 0), aI G q39 121 (fun _ => 0), aI G q47 121 (fun _ => 0)]) S hmn hK hW k_X1_init_in1 tyX1_ok nmX1 0 5 rfl rfl (by decide) k_X1_init_f27 rfl rfl rfl rfl rfl rfl dX1_init_49 (fun H locs hW => ?_)
  refine lv_aload_n hx hb dX1_init_52 rfl (lv_at hl 0 rfl) ?_
  refine lv_bipush (v := 121) hx hb dX1_init_53 (by decide) ?_
  refine k_newaI S hK hW k_X1_init_acI 121 (by decide) rfl rfl rfl rfl dX1_init_55 (fun q55 H hW => ?_)
  have hW : Wd G A sS.heap [(b, .inr (1, [.ref q7, .ref q15, .ref q23, .ref q31, .ref q39, .ref q47, .null])), aI G q7 121 (fun _ => 0), aI G q15 121 (fun _ => 0), aI G q23 121 (fun _ => 0), aI G q31 121 (fun _ => 0), aI G q39 121 (fun _ => 0), aI G q47 121 (fun _ => 0), aI G q55 121 (fun _ => 0)] H _ := hW
  refine k_putF (C := RX1) (T := TX1) (N := 7) (ci := 1) (v := .ref q55) (ws' := [(b, .inr (1, [.ref q7, .ref q15, .ref q23, .ref q31, .ref q39, .ref q47, .ref q55])), aI G q7 121 (fun _ => 0), aI G q15 121 (fun _ => 0), aI G q23 121 (fun _ => 0), aI G q31 121 (fun _ => 0), aI G q39 121 (fun _ => 0), aI G q47 121 (fun _ => 0), aI G q55 121 (fun _ => 0)]) S hmn hK hW k_X1_init_in1 tyX1_ok nmX1 0 6 rfl rfl (by decide) k_X1_init_f30 rfl rfl rfl rfl rfl rfl dX1_init_57 (fun H locs hW => ?_)
  exact k_nret S hr hlk hK hW [0, 1, 2, 3, 4, 5, 6, 7] (fun k => [q7, q15, q23, q31, q39, q47, q55].getD k 0) rfl rfl rfl rfl dX1_init_60
set_option maxRecDepth 100000 in
theorem k_X4_init_ml1 : Cond.methodLink RX4 1 objectInit ∈ wsX4_init := by decide +kernel
set_option maxRecDepth 100000 in
theorem k_X4_init_oi : Cond.instanceMethod objectInit ∈ wsX4_init := by decide +kernel
set_option maxRecDepth 100000 in
theorem k_X4_init_oc : Cond.code objectInit ⟨#[0xb1]⟩ 1 none ∈ wsX4_init := by decide +kernel
set_option maxRecDepth 100000 in
theorem k_X4_init_cl7 : Cond.classLink RX4 7 RX2 ∈ wsX4_init := by decide +kernel
set_option maxRecDepth 100000 in
theorem k_X4_init_it2 : Cond.instantiable RX2 3 ∈ wsX4_init := by decide +kernel
set_option maxRecDepth 100000 in
theorem k_X4_init_ii2 : Cond.initialized RX2 ∈ wsX4_init := by decide +kernel
set_option maxRecDepth 100000 in
theorem k_X4_init_in2 : ∀ w ∈ u_ws RX2 TX2 3, w ∈ wsX4_init := by decide +kernel
set_option maxRecDepth 100000 in
theorem k_X4_init_ml9 : Cond.methodLink RX4 9 yX2_init ∈ wsX4_init := by decide +kernel
set_option maxRecDepth 100000 in
theorem k_X4_init_im9 : Cond.instanceMethod yX2_init ∈ wsX4_init := by decide +kernel
set_option maxRecDepth 100000 in
theorem k_X4_init_f10 : Cond.fieldLink RX4 10 "FlexiblePolicy" "plan" "LFlexiblePolicy$Plan;" ∈ wsX4_init := by decide +kernel
set_option maxRecDepth 100000 in
theorem k_X4_init_in4 : ∀ w ∈ u_ws RX4 TX4 6, w ∈ wsX4_init := by decide +kernel
set_option maxRecDepth 100000 in
theorem k_X4_init_cl16 : Cond.classLink RX4 16 RX0 ∈ wsX4_init := by decide +kernel
set_option maxRecDepth 100000 in
theorem k_X4_init_it0 : Cond.instantiable RX0 6 ∈ wsX4_init := by decide +kernel
set_option maxRecDepth 100000 in
theorem k_X4_init_ii0 : Cond.initialized RX0 ∈ wsX4_init := by decide +kernel
set_option maxRecDepth 100000 in
theorem k_X4_init_in0 : ∀ w ∈ u_ws RX0 TX0 6, w ∈ wsX4_init := by decide +kernel
set_option maxRecDepth 100000 in
theorem k_X4_init_ml18 : Cond.methodLink RX4 18 yX0_init ∈ wsX4_init := by decide +kernel
set_option maxRecDepth 100000 in
theorem k_X4_init_im18 : Cond.instanceMethod yX0_init ∈ wsX4_init := by decide +kernel
set_option maxRecDepth 100000 in
theorem k_X4_init_f19 : Cond.fieldLink RX4 19 "FlexiblePolicy" "book" "LFlexiblePolicy$ActBook;" ∈ wsX4_init := by decide +kernel
set_option maxRecDepth 100000 in
theorem k_X4_init_cl23 : Cond.classLink RX4 23 RX1 ∈ wsX4_init := by decide +kernel
set_option maxRecDepth 100000 in
theorem k_X4_init_it1 : Cond.instantiable RX1 7 ∈ wsX4_init := by decide +kernel
set_option maxRecDepth 100000 in
theorem k_X4_init_ii1 : Cond.initialized RX1 ∈ wsX4_init := by decide +kernel
set_option maxRecDepth 100000 in
theorem k_X4_init_in1 : ∀ w ∈ u_ws RX1 TX1 7, w ∈ wsX4_init := by decide +kernel
set_option maxRecDepth 100000 in
theorem k_X4_init_ml25 : Cond.methodLink RX4 25 yX1_init ∈ wsX4_init := by decide +kernel
set_option maxRecDepth 100000 in
theorem k_X4_init_im25 : Cond.instanceMethod yX1_init ∈ wsX4_init := by decide +kernel
set_option maxRecDepth 100000 in
theorem k_X4_init_f26 : Cond.fieldLink RX4 26 "FlexiblePolicy" "history" "LFlexiblePolicy$History;" ∈ wsX4_init := by decide +kernel
set_option maxRecDepth 100000 in
theorem k_X4_init_cl30 : Cond.classLink RX4 30 RX3 ∈ wsX4_init := by decide +kernel
set_option maxRecDepth 100000 in
theorem k_X4_init_it3 : Cond.instantiable RX3 7 ∈ wsX4_init := by decide +kernel
set_option maxRecDepth 100000 in
theorem k_X4_init_ii3 : Cond.initialized RX3 ∈ wsX4_init := by decide +kernel
set_option maxRecDepth 100000 in
theorem k_X4_init_in3 : ∀ w ∈ u_ws RX3 TX3 7, w ∈ wsX4_init := by decide +kernel
set_option maxRecDepth 100000 in
theorem k_X4_init_ml32 : Cond.methodLink RX4 32 yX3_init ∈ wsX4_init := by decide +kernel
set_option maxRecDepth 100000 in
theorem k_X4_init_im32 : Cond.instanceMethod yX3_init ∈ wsX4_init := by decide +kernel
set_option maxRecDepth 100000 in
theorem k_X4_init_f33 : Cond.fieldLink RX4 33 "FlexiblePolicy" "now" "LFlexiblePolicy$Standing;" ∈ wsX4_init := by decide +kernel
set_option maxRecDepth 100000 in
theorem k_X4_init_f37 : Cond.fieldLink RX4 37 "FlexiblePolicy" "trial" "LFlexiblePolicy$Standing;" ∈ wsX4_init := by decide +kernel
set_option maxRecDepth 100000 in
theorem k_X4_init_f40 : Cond.fieldLink RX4 40 "FlexiblePolicy" "present" "I" ∈ wsX4_init := by decide +kernel
theorem nd_X4_init : yX4_init.cls ≠ "java/lang/invoke/MethodHandle" ∧ yX4_init.cls ≠ "java/lang/invoke/VarHandle" ∧ (parseMethodDescriptor yX4_init.desc).map (fun d => d.parameters.length) = some 0 := by decide +kernel
abbrev rm_X4_init : Room := { frames := 2, cells := 17, slots := 1177, locals := 40 }
set_option maxHeartbeats 4000000 in
set_option maxRecDepth 100000 in
theorem c_X4_init (l : Launch) (G : GG) (b : Nat) : CN l G yX4_init wsX4_init rm_X4_init [.ref b] [(b, .inr (4, [.null, .null, .null, .null, .null, .int 0]))] (fun u => [(b, .inr (4, [.ref (u 0), .ref (u 1), .ref (u 2), .ref (u 3), .ref (u 4), .int 0])), ((u 0), .inr (2, [.int 30, .int 5000000, .int 0])), ((u 1), .inr (0, [.int 0, .ref (u 5), .ref (u 6), .ref (u 7), .ref (u 8), .ref (u 9)])), ((u 2), .inr (1, [.ref (u 10), .ref (u 11), .ref (u 12), .ref (u 13), .ref (u 14), .ref (u 15), .ref (u 16)])), ((u 3), .inr (3, [.int 0, .int 0, .int 0, .int 0, .int 0, .int 0, .int 0])), ((u 4), .inr (3, [.int 0, .int 0, .int 0, .int 0, .int 0, .int 0, .int 0])), aI G (u 5) 60 (fun _ => 0), aI G (u 6) 60 (fun _ => 0), aI G (u 7) 60 (fun _ => 0), aZ G (u 8) 60 (fun _ => false), aZ G (u 9) 60 (fun _ => false), aI G (u 10) 121 (fun _ => 0), aI G (u 11) 121 (fun _ => 0), aI G (u 12) 121 (fun _ => 0), aI G (u 13) 121 (fun _ => 0), aI G (u 14) 121 (fun _ => 0), aI G (u 15) 121 (fun _ => 0), aI G (u 16) 121 (fun _ => 0)]) 17 1177 := by
  refine CN_of (own := RX4) (by decide +kernel) rfl rfl (Nat.le_of_ble_eq_true rfl) ?_
  intro pP eE sS mM args below meth cC A S hK hr hlk hmn hW ls hl
  have hx := S.1
  have hb := S.2.1
  have hl : lv_has ls 1 [(0, .ref b)] := hl
  have hW : Wd G A sS.heap [(b, .inr (4, [.null, .null, .null, .null, .null, .int 0]))] sS.heap [] := hW
  refine lv_aload_n hx hb dX4_init_0 rfl (lv_at hl 0 rfl) ?_
  refine k_objInit S k_X4_init_ml1 k_X4_init_oi k_X4_init_oc hl.1 rfl rfl dX4_init_1 ?_
  refine lv_aload_n hx hb dX4_init_4 rfl (lv_at hl 0 rfl) ?_
  refine k_new (C := RX2) (T := TX2) (N := 3) (ci := 2) (fs := [.int 0, .int 0, .int 0]) S hK hW k_X4_init_in2 tyX2_ok k_X4_init_cl7 k_X4_init_it2 k_X4_init_ii2 rfl (fun j hj => by rcases (show j = 0 ∨ j = 1 ∨ j = 2 by omega) with rfl | rfl | rfl <;> rfl) rfl rfl dX4_init_5 (fun q5 H hW => ?_)
  have hW : Wd G A sS.heap [(b, .inr (4, [.null, .null, .null, .null, .null, .int 0])), (q5, .inr (2, [.int 0, .int 0, .int 0]))] H _ := hW
  refine lv_dup hx hb dX4_init_8 rfl ?_
  refine k_callIv (rest := [.ref q5, .ref b]) (wr := [(b, .inr (4, [.null, .null, .null, .null, .null, .int 0]))]) (c_X2_init l G q5) S hK hW gX4_init_X2_init rfl ⟨rfl, rfl⟩ k_X4_init_ii2 k_X4_init_ml9 k_X4_init_im9 rfl nd_X2_init ⟨rfl, rfl⟩ [1] [0] rfl rfl rfl rfl (by decide) hl.1 rfl dX4_init_9 ⟨rfl, rfl⟩ (fun H locs hW => ?_)
  have hW : Wd G A sS.heap [(b, .inr (4, [.null, .null, .null, .null, .null, .int 0])), (q5, .inr (2, [.int 30, .int 5000000, .int 0]))] H locs := hW
  refine k_putF (C := RX4) (T := TX4) (N := 6) (ci := 4) (v := .ref q5) (ws' := [(b, .inr (4, [.ref q5, .null, .null, .null, .null, .int 0])), (q5, .inr (2, [.int 30, .int 5000000, .int 0]))]) S hmn hK hW k_X4_init_in4 tyX4_ok nmX4 0 0 rfl rfl (by decide) k_X4_init_f10 rfl rfl rfl rfl rfl rfl dX4_init_12 (fun H locs hW => ?_)
  refine lv_aload_n hx hb dX4_init_15 rfl (lv_at hl 0 rfl) ?_
  refine k_new (C := RX0) (T := TX0) (N := 6) (ci := 0) (fs := [.int 0, .null, .null, .null, .null, .null]) S hK hW k_X4_init_in0 tyX0_ok k_X4_init_cl16 k_X4_init_it0 k_X4_init_ii0 rfl (fun j hj => by rcases (show j = 0 ∨ j = 1 ∨ j = 2 ∨ j = 3 ∨ j = 4 ∨ j = 5 by omega) with rfl | rfl | rfl | rfl | rfl | rfl <;> rfl) rfl rfl dX4_init_16 (fun q16 H hW => ?_)
  have hW : Wd G A sS.heap [(b, .inr (4, [.ref q5, .null, .null, .null, .null, .int 0])), (q5, .inr (2, [.int 30, .int 5000000, .int 0])), (q16, .inr (0, [.int 0, .null, .null, .null, .null, .null]))] H _ := hW
  refine lv_dup hx hb dX4_init_19 rfl ?_
  refine k_callIn (rest := [.ref q16, .ref b]) (wr := [(b, .inr (4, [.ref q5, .null, .null, .null, .null, .int 0])), (q5, .inr (2, [.int 30, .int 5000000, .int 0]))]) (c_X0_init l G q16) S hK hW gX4_init_X0_init rfl ⟨rfl, rfl⟩ k_X4_init_ii0 k_X4_init_ml18 k_X4_init_im18 rfl nd_X0_init ⟨rfl, rfl⟩ [2] [0, 1] rfl rfl rfl rfl (by decide) hl.1 rfl dX4_init_20 ⟨rfl, rfl⟩ (fun u20 H locs hW => ?_)
  have hW : Wd G A sS.heap [(b, .inr (4, [.ref q5, .null, .null, .null, .null, .int 0])), (q5, .inr (2, [.int 30, .int 5000000, .int 0])), (q16, .inr (0, [.int 0, .ref (u20 0), .ref (u20 1), .ref (u20 2), .ref (u20 3), .ref (u20 4)])), aI G (u20 0) 60 (fun _ => 0), aI G (u20 1) 60 (fun _ => 0), aI G (u20 2) 60 (fun _ => 0), aZ G (u20 3) 60 (fun _ => false), aZ G (u20 4) 60 (fun _ => false)] H locs := hW
  refine k_putF (C := RX4) (T := TX4) (N := 6) (ci := 4) (v := .ref q16) (ws' := [(b, .inr (4, [.ref q5, .ref q16, .null, .null, .null, .int 0])), (q5, .inr (2, [.int 30, .int 5000000, .int 0])), (q16, .inr (0, [.int 0, .ref (u20 0), .ref (u20 1), .ref (u20 2), .ref (u20 3), .ref (u20 4)])), aI G (u20 0) 60 (fun _ => 0), aI G (u20 1) 60 (fun _ => 0), aI G (u20 2) 60 (fun _ => 0), aZ G (u20 3) 60 (fun _ => false), aZ G (u20 4) 60 (fun _ => false)]) S hmn hK hW k_X4_init_in4 tyX4_ok nmX4 0 1 rfl rfl (by decide) k_X4_init_f19 rfl rfl rfl rfl rfl rfl dX4_init_23 (fun H locs hW => ?_)
  refine lv_aload_n hx hb dX4_init_26 rfl (lv_at hl 0 rfl) ?_
  refine k_new (C := RX1) (T := TX1) (N := 7) (ci := 1) (fs := [.null, .null, .null, .null, .null, .null, .null]) S hK hW k_X4_init_in1 tyX1_ok k_X4_init_cl23 k_X4_init_it1 k_X4_init_ii1 rfl (fun j hj => by rcases (show j = 0 ∨ j = 1 ∨ j = 2 ∨ j = 3 ∨ j = 4 ∨ j = 5 ∨ j = 6 by omega) with rfl | rfl | rfl | rfl | rfl | rfl | rfl <;> rfl) rfl rfl dX4_init_27 (fun q27 H hW => ?_)
  have hW : Wd G A sS.heap [(b, .inr (4, [.ref q5, .ref q16, .null, .null, .null, .int 0])), (q5, .inr (2, [.int 30, .int 5000000, .int 0])), (q16, .inr (0, [.int 0, .ref (u20 0), .ref (u20 1), .ref (u20 2), .ref (u20 3), .ref (u20 4)])), aI G (u20 0) 60 (fun _ => 0), aI G (u20 1) 60 (fun _ => 0), aI G (u20 2) 60 (fun _ => 0), aZ G (u20 3) 60 (fun _ => false), aZ G (u20 4) 60 (fun _ => false), (q27, .inr (1, [.null, .null, .null, .null, .null, .null, .null]))] H _ := hW
  refine lv_dup hx hb dX4_init_30 rfl ?_
  refine k_callIn (rest := [.ref q27, .ref b]) (wr := [(b, .inr (4, [.ref q5, .ref q16, .null, .null, .null, .int 0])), (q5, .inr (2, [.int 30, .int 5000000, .int 0])), (q16, .inr (0, [.int 0, .ref (u20 0), .ref (u20 1), .ref (u20 2), .ref (u20 3), .ref (u20 4)])), aI G (u20 0) 60 (fun _ => 0), aI G (u20 1) 60 (fun _ => 0), aI G (u20 2) 60 (fun _ => 0), aZ G (u20 3) 60 (fun _ => false), aZ G (u20 4) 60 (fun _ => false)]) (c_X1_init l G q27) S hK hW gX4_init_X1_init rfl ⟨rfl, rfl⟩ k_X4_init_ii1 k_X4_init_ml25 k_X4_init_im25 rfl nd_X1_init ⟨rfl, rfl⟩ [8] [0, 1, 2, 3, 4, 5, 6, 7] rfl rfl rfl rfl (by decide) hl.1 rfl dX4_init_31 ⟨rfl, rfl⟩ (fun u31 H locs hW => ?_)
  have hW : Wd G A sS.heap [(b, .inr (4, [.ref q5, .ref q16, .null, .null, .null, .int 0])), (q5, .inr (2, [.int 30, .int 5000000, .int 0])), (q16, .inr (0, [.int 0, .ref (u20 0), .ref (u20 1), .ref (u20 2), .ref (u20 3), .ref (u20 4)])), aI G (u20 0) 60 (fun _ => 0), aI G (u20 1) 60 (fun _ => 0), aI G (u20 2) 60 (fun _ => 0), aZ G (u20 3) 60 (fun _ => false), aZ G (u20 4) 60 (fun _ => false), (q27, .inr (1, [.ref (u31 0), .ref (u31 1), .ref (u31 2), .ref (u31 3), .ref (u31 4), .ref (u31 5), .ref (u31 6)])), aI G (u31 0) 121 (fun _ => 0), aI G (u31 1) 121 (fun _ => 0), aI G (u31 2) 121 (fun _ => 0), aI G (u31 3) 121 (fun _ => 0), aI G (u31 4) 121 (fun _ => 0), aI G (u31 5) 121 (fun _ => 0), aI G (u31 6) 121 (fun _ => 0)] H locs := hW
  refine k_putF (C := RX4) (T := TX4) (N := 6) (ci := 4) (v := .ref q27) (ws' := [(b, .inr (4, [.ref q5, .ref q16, .ref q27, .null, .null, .int 0])), (q5, .inr (2, [.int 30, .int 5000000, .int 0])), (q16, .inr (0, [.int 0, .ref (u20 0), .ref (u20 1), .ref (u20 2), .ref (u20 3), .ref (u20 4)])), aI G (u20 0) 60 (fun _ => 0), aI G (u20 1) 60 (fun _ => 0), aI G (u20 2) 60 (fun _ => 0), aZ G (u20 3) 60 (fun _ => false), aZ G (u20 4) 60 (fun _ => false), (q27, .inr (1, [.ref (u31 0), .ref (u31 1), .ref (u31 2), .ref (u31 3), .ref (u31 4), .ref (u31 5), .ref (u31 6)])), aI G (u31 0) 121 (fun _ => 0), aI G (u31 1) 121 (fun _ => 0), aI G (u31 2) 121 (fun _ => 0), aI G (u31 3) 121 (fun _ => 0), aI G (u31 4) 121 (fun _ => 0), aI G (u31 5) 121 (fun _ => 0), aI G (u31 6) 121 (fun _ => 0)]) S hmn hK hW k_X4_init_in4 tyX4_ok nmX4 0 2 rfl rfl (by decide) k_X4_init_f26 rfl rfl rfl rfl rfl rfl dX4_init_34 (fun H locs hW => ?_)
  refine lv_aload_n hx hb dX4_init_37 rfl (lv_at hl 0 rfl) ?_
  refine k_new (C := RX3) (T := TX3) (N := 7) (ci := 3) (fs := [.int 0, .int 0, .int 0, .int 0, .int 0, .int 0, .int 0]) S hK hW k_X4_init_in3 tyX3_ok k_X4_init_cl30 k_X4_init_it3 k_X4_init_ii3 rfl (fun j hj => by rcases (show j = 0 ∨ j = 1 ∨ j = 2 ∨ j = 3 ∨ j = 4 ∨ j = 5 ∨ j = 6 by omega) with rfl | rfl | rfl | rfl | rfl | rfl | rfl <;> rfl) rfl rfl dX4_init_38 (fun q38 H hW => ?_)
  have hW : Wd G A sS.heap [(b, .inr (4, [.ref q5, .ref q16, .ref q27, .null, .null, .int 0])), (q5, .inr (2, [.int 30, .int 5000000, .int 0])), (q16, .inr (0, [.int 0, .ref (u20 0), .ref (u20 1), .ref (u20 2), .ref (u20 3), .ref (u20 4)])), aI G (u20 0) 60 (fun _ => 0), aI G (u20 1) 60 (fun _ => 0), aI G (u20 2) 60 (fun _ => 0), aZ G (u20 3) 60 (fun _ => false), aZ G (u20 4) 60 (fun _ => false), (q27, .inr (1, [.ref (u31 0), .ref (u31 1), .ref (u31 2), .ref (u31 3), .ref (u31 4), .ref (u31 5), .ref (u31 6)])), aI G (u31 0) 121 (fun _ => 0), aI G (u31 1) 121 (fun _ => 0), aI G (u31 2) 121 (fun _ => 0), aI G (u31 3) 121 (fun _ => 0), aI G (u31 4) 121 (fun _ => 0), aI G (u31 5) 121 (fun _ => 0), aI G (u31 6) 121 (fun _ => 0), (q38, .inr (3, [.int 0, .int 0, .int 0, .int 0, .int 0, .int 0, .int 0]))] H _ := hW
  refine lv_dup hx hb dX4_init_41 rfl ?_
  refine k_callIv (rest := [.ref q38, .ref b]) (wr := [(b, .inr (4, [.ref q5, .ref q16, .ref q27, .null, .null, .int 0])), (q5, .inr (2, [.int 30, .int 5000000, .int 0])), (q16, .inr (0, [.int 0, .ref (u20 0), .ref (u20 1), .ref (u20 2), .ref (u20 3), .ref (u20 4)])), aI G (u20 0) 60 (fun _ => 0), aI G (u20 1) 60 (fun _ => 0), aI G (u20 2) 60 (fun _ => 0), aZ G (u20 3) 60 (fun _ => false), aZ G (u20 4) 60 (fun _ => false), (q27, .inr (1, [.ref (u31 0), .ref (u31 1), .ref (u31 2), .ref (u31 3), .ref (u31 4), .ref (u31 5), .ref (u31 6)])), aI G (u31 0) 121 (fun _ => 0), aI G (u31 1) 121 (fun _ => 0), aI G (u31 2) 121 (fun _ => 0), aI G (u31 3) 121 (fun _ => 0), aI G (u31 4) 121 (fun _ => 0), aI G (u31 5) 121 (fun _ => 0), aI G (u31 6) 121 (fun _ => 0)]) (c_X3_init l G q38) S hK hW gX4_init_X3_init rfl ⟨rfl, rfl⟩ k_X4_init_ii3 k_X4_init_ml32 k_X4_init_im32 rfl nd_X3_init ⟨rfl, rfl⟩ [16] [0, 1, 2, 3, 4, 5, 6, 7, 8, 9, 10, 11, 12, 13, 14, 15] rfl rfl rfl rfl (by decide) hl.1 rfl dX4_init_42 ⟨rfl, rfl⟩ (fun H locs hW => ?_)
  have hW : Wd G A sS.heap [(b, .inr (4, [.ref q5, .ref q16, .ref q27, .null, .null, .int 0])), (q5, .inr (2, [.int 30, .int 5000000, .int 0])), (q16, .inr (0, [.int 0, .ref (u20 0), .ref (u20 1), .ref (u20 2), .ref (u20 3), .ref (u20 4)])), aI G (u20 0) 60 (fun _ => 0), aI G (u20 1) 60 (fun _ => 0), aI G (u20 2) 60 (fun _ => 0), aZ G (u20 3) 60 (fun _ => false), aZ G (u20 4) 60 (fun _ => false), (q27, .inr (1, [.ref (u31 0), .ref (u31 1), .ref (u31 2), .ref (u31 3), .ref (u31 4), .ref (u31 5), .ref (u31 6)])), aI G (u31 0) 121 (fun _ => 0), aI G (u31 1) 121 (fun _ => 0), aI G (u31 2) 121 (fun _ => 0), aI G (u31 3) 121 (fun _ => 0), aI G (u31 4) 121 (fun _ => 0), aI G (u31 5) 121 (fun _ => 0), aI G (u31 6) 121 (fun _ => 0), (q38, .inr (3, [.int 0, .int 0, .int 0, .int 0, .int 0, .int 0, .int 0]))] H locs := hW
  refine k_putF (C := RX4) (T := TX4) (N := 6) (ci := 4) (v := .ref q38) (ws' := [(b, .inr (4, [.ref q5, .ref q16, .ref q27, .ref q38, .null, .int 0])), (q5, .inr (2, [.int 30, .int 5000000, .int 0])), (q16, .inr (0, [.int 0, .ref (u20 0), .ref (u20 1), .ref (u20 2), .ref (u20 3), .ref (u20 4)])), aI G (u20 0) 60 (fun _ => 0), aI G (u20 1) 60 (fun _ => 0), aI G (u20 2) 60 (fun _ => 0), aZ G (u20 3) 60 (fun _ => false), aZ G (u20 4) 60 (fun _ => false), (q27, .inr (1, [.ref (u31 0), .ref (u31 1), .ref (u31 2), .ref (u31 3), .ref (u31 4), .ref (u31 5), .ref (u31 6)])), aI G (u31 0) 121 (fun _ => 0), aI G (u31 1) 121 (fun _ => 0), aI G (u31 2) 121 (fun _ => 0), aI G (u31 3) 121 (fun _ => 0), aI G (u31 4) 121 (fun _ => 0), aI G (u31 5) 121 (fun _ => 0), aI G (u31 6) 121 (fun _ => 0), (q38, .inr (3, [.int 0, .int 0, .int 0, .int 0, .int 0, .int 0, .int 0]))]) S hmn hK hW k_X4_init_in4 tyX4_ok nmX4 0 3 rfl rfl (by decide) k_X4_init_f33 rfl rfl rfl rfl rfl rfl dX4_init_45 (fun H locs hW => ?_)
  refine lv_aload_n hx hb dX4_init_48 rfl (lv_at hl 0 rfl) ?_
  refine k_new (C := RX3) (T := TX3) (N := 7) (ci := 3) (fs := [.int 0, .int 0, .int 0, .int 0, .int 0, .int 0, .int 0]) S hK hW k_X4_init_in3 tyX3_ok k_X4_init_cl30 k_X4_init_it3 k_X4_init_ii3 rfl (fun j hj => by rcases (show j = 0 ∨ j = 1 ∨ j = 2 ∨ j = 3 ∨ j = 4 ∨ j = 5 ∨ j = 6 by omega) with rfl | rfl | rfl | rfl | rfl | rfl | rfl <;> rfl) rfl rfl dX4_init_49 (fun q49 H hW => ?_)
  have hW : Wd G A sS.heap [(b, .inr (4, [.ref q5, .ref q16, .ref q27, .ref q38, .null, .int 0])), (q5, .inr (2, [.int 30, .int 5000000, .int 0])), (q16, .inr (0, [.int 0, .ref (u20 0), .ref (u20 1), .ref (u20 2), .ref (u20 3), .ref (u20 4)])), aI G (u20 0) 60 (fun _ => 0), aI G (u20 1) 60 (fun _ => 0), aI G (u20 2) 60 (fun _ => 0), aZ G (u20 3) 60 (fun _ => false), aZ G (u20 4) 60 (fun _ => false), (q27, .inr (1, [.ref (u31 0), .ref (u31 1), .ref (u31 2), .ref (u31 3), .ref (u31 4), .ref (u31 5), .ref (u31 6)])), aI G (u31 0) 121 (fun _ => 0), aI G (u31 1) 121 (fun _ => 0), aI G (u31 2) 121 (fun _ => 0), aI G (u31 3) 121 (fun _ => 0), aI G (u31 4) 121 (fun _ => 0), aI G (u31 5) 121 (fun _ => 0), aI G (u31 6) 121 (fun _ => 0), (q38, .inr (3, [.int 0, .int 0, .int 0, .int 0, .int 0, .int 0, .int 0])), (q49, .inr (3, [.int 0, .int 0, .int 0, .int 0, .int 0, .int 0, .int 0]))] H _ := hW
  refine lv_dup hx hb dX4_init_52 rfl ?_
  refine k_callIv (rest := [.ref q49, .ref b]) (wr := [(b, .inr (4, [.ref q5, .ref q16, .ref q27, .ref q38, .null, .int 0])), (q5, .inr (2, [.int 30, .int 5000000, .int 0])), (q16, .inr (0, [.int 0, .ref (u20 0), .ref (u20 1), .ref (u20 2), .ref (u20 3), .ref (u20 4)])), aI G (u20 0) 60 (fun _ => 0), aI G (u20 1) 60 (fun _ => 0), aI G (u20 2) 60 (fun _ => 0), aZ G (u20 3) 60 (fun _ => false), aZ G (u20 4) 60 (fun _ => false), (q27, .inr (1, [.ref (u31 0), .ref (u31 1), .ref (u31 2), .ref (u31 3), .ref (u31 4), .ref (u31 5), .ref (u31 6)])), aI G (u31 0) 121 (fun _ => 0), aI G (u31 1) 121 (fun _ => 0), aI G (u31 2) 121 (fun _ => 0), aI G (u31 3) 121 (fun _ => 0), aI G (u31 4) 121 (fun _ => 0), aI G (u31 5) 121 (fun _ => 0), aI G (u31 6) 121 (fun _ => 0), (q38, .inr (3, [.int 0, .int 0, .int 0, .int 0, .int 0, .int 0, .int 0]))]) (c_X3_init l G q49) S hK hW gX4_init_X3_init rfl ⟨rfl, rfl⟩ k_X4_init_ii3 k_X4_init_ml32 k_X4_init_im32 rfl nd_X3_init ⟨rfl, rfl⟩ [17] [0, 1, 2, 3, 4, 5, 6, 7, 8, 9, 10, 11, 12, 13, 14, 15, 16] rfl rfl rfl rfl (by decide) hl.1 rfl dX4_init_53 ⟨rfl, rfl⟩ (fun H locs hW => ?_)
  have hW : Wd G A sS.heap [(b, .inr (4, [.ref q5, .ref q16, .ref q27, .ref q38, .null, .int 0])), (q5, .inr (2, [.int 30, .int 5000000, .int 0])), (q16, .inr (0, [.int 0, .ref (u20 0), .ref (u20 1), .ref (u20 2), .ref (u20 3), .ref (u20 4)])), aI G (u20 0) 60 (fun _ => 0), aI G (u20 1) 60 (fun _ => 0), aI G (u20 2) 60 (fun _ => 0), aZ G (u20 3) 60 (fun _ => false), aZ G (u20 4) 60 (fun _ => false), (q27, .inr (1, [.ref (u31 0), .ref (u31 1), .ref (u31 2), .ref (u31 3), .ref (u31 4), .ref (u31 5), .ref (u31 6)])), aI G (u31 0) 121 (fun _ => 0), aI G (u31 1) 121 (fun _ => 0), aI G (u31 2) 121 (fun _ => 0), aI G (u31 3) 121 (fun _ => 0), aI G (u31 4) 121 (fun _ => 0), aI G (u31 5) 121 (fun _ => 0), aI G (u31 6) 121 (fun _ => 0), (q38, .inr (3, [.int 0, .int 0, .int 0, .int 0, .int 0, .int 0, .int 0])), (q49, .inr (3, [.int 0, .int 0, .int 0, .int 0, .int 0, .int 0, .int 0]))] H locs := hW
  refine k_putF (C := RX4) (T := TX4) (N := 6) (ci := 4) (v := .ref q49) (ws' := [(b, .inr (4, [.ref q5, .ref q16, .ref q27, .ref q38, .ref q49, .int 0])), (q5, .inr (2, [.int 30, .int 5000000, .int 0])), (q16, .inr (0, [.int 0, .ref (u20 0), .ref (u20 1), .ref (u20 2), .ref (u20 3), .ref (u20 4)])), aI G (u20 0) 60 (fun _ => 0), aI G (u20 1) 60 (fun _ => 0), aI G (u20 2) 60 (fun _ => 0), aZ G (u20 3) 60 (fun _ => false), aZ G (u20 4) 60 (fun _ => false), (q27, .inr (1, [.ref (u31 0), .ref (u31 1), .ref (u31 2), .ref (u31 3), .ref (u31 4), .ref (u31 5), .ref (u31 6)])), aI G (u31 0) 121 (fun _ => 0), aI G (u31 1) 121 (fun _ => 0), aI G (u31 2) 121 (fun _ => 0), aI G (u31 3) 121 (fun _ => 0), aI G (u31 4) 121 (fun _ => 0), aI G (u31 5) 121 (fun _ => 0), aI G (u31 6) 121 (fun _ => 0), (q38, .inr (3, [.int 0, .int 0, .int 0, .int 0, .int 0, .int 0, .int 0])), (q49, .inr (3, [.int 0, .int 0, .int 0, .int 0, .int 0, .int 0, .int 0]))]) S hmn hK hW k_X4_init_in4 tyX4_ok nmX4 0 4 rfl rfl (by decide) k_X4_init_f37 rfl rfl rfl rfl rfl rfl dX4_init_56 (fun H locs hW => ?_)
  refine lv_aload_n hx hb dX4_init_59 rfl (lv_at hl 0 rfl) ?_
  refine lv_iconst (v := 0) hx hb dX4_init_60 (by decide) ?_
  refine k_put (C := RX4) (T := TX4) (N := 6) (ci := 4) (v := .int 0) (ws' := [(b, .inr (4, [.ref q5, .ref q16, .ref q27, .ref q38, .ref q49, .int 0])), (q5, .inr (2, [.int 30, .int 5000000, .int 0])), (q16, .inr (0, [.int 0, .ref (u20 0), .ref (u20 1), .ref (u20 2), .ref (u20 3), .ref (u20 4)])), aI G (u20 0) 60 (fun _ => 0), aI G (u20 1) 60 (fun _ => 0), aI G (u20 2) 60 (fun _ => 0), aZ G (u20 3) 60 (fun _ => false), aZ G (u20 4) 60 (fun _ => false), (q27, .inr (1, [.ref (u31 0), .ref (u31 1), .ref (u31 2), .ref (u31 3), .ref (u31 4), .ref (u31 5), .ref (u31 6)])), aI G (u31 0) 121 (fun _ => 0), aI G (u31 1) 121 (fun _ => 0), aI G (u31 2) 121 (fun _ => 0), aI G (u31 3) 121 (fun _ => 0), aI G (u31 4) 121 (fun _ => 0), aI G (u31 5) 121 (fun _ => 0), aI G (u31 6) 121 (fun _ => 0), (q38, .inr (3, [.int 0, .int 0, .int 0, .int 0, .int 0, .int 0, .int 0])), (q49, .inr (3, [.int 0, .int 0, .int 0, .int 0, .int 0, .int 0, .int 0]))]) S hK hW k_X4_init_in4 tyX4_ok nmX4 0 5 rfl rfl (by decide) k_X4_init_f40 rfl rfl rfl rfl rfl dX4_init_61 (fun H locs hW => ?_)
  exact k_nret S hr hlk hK hW [0, 1, 2, 8, 16, 17, 3, 4, 5, 6, 7, 9, 10, 11, 12, 13, 14, 15] (fun k => [q5, q16, q27, q38, q49, (u20 0), (u20 1), (u20 2), (u20 3), (u20 4), (u31 0), (u31 1), (u31 2), (u31 3), (u31 4), (u31 5), (u31 6)].getD k 0) rfl rfl rfl rfl dX4_init_64
