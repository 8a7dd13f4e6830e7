section KIT
/-- what irem leaves -/
def irm (x y : Int32) : Int32 := x - x / y * y
def bI : Bool → Int32
  | true => 1
  | false => 0
theorem nar_bI (b : Bool) : narrow .boolean (.int (bI b)) = .int (bI b) := by cases b <;> first | rfl | decide +kernel
theorem vnar_bI (b : Bool) : vp_nar .boolean (bI b) = bI b := by cases b <;> first | rfl | decide +kernel
def updB (g : Nat → Bool) (k : Nat) (x : Bool) : Nat → Bool := fun j => if j = k then x else g j
theorem upd_bI (g : Nat → Bool) (k : Nat) (b : Bool) : upd (fun j => bI (g j)) k (vp_nar .boolean (bI b)) = fun j => bI (updB g k b j) := by
  funext j
  unfold upd updB
  rw [vnar_bI]
  by_cases h : j = k
  · rw [if_pos h, if_pos h]
  · rw [if_neg h, if_neg h]
abbrev GG : Type := va_G × (ClassId × ClassId × ClassId)
abbrev Kn (G : GG) (U : State) : Prop := va_K G.1 vwCl [(G.2.1, .int), (G.2.2.1, .boolean)] U
def Wd (G : GG) (A : Nat → Prop) (H0 : Heap) (ws : va_W) (H : Heap) (locs : List Loc) : Prop := va_P G.1 vwCl ws H ∧ va_D A ws ∧ va_S A H0 H locs ∧ ∀ q : Nat, H0.size ≤ q → A q
abbrev KPre (G : GG) (wc : va_W) (sz : Nat) : State → Prop := fun U => U.heap.size = sz ∧ va_P G.1 vwCl wc U.heap ∧ Kn G U ∧ va_D (fun _ => True) wc
abbrev KB (G : GG) (A : Nat → Prop) (wc' : va_W) : Unit → State → Prop := fun _ t => va_P G.1 vwCl wc' t.heap ∧ Kn G t ∧ va_D A wc'
abbrev QI (G : GG) (A : Nat → Prop) (r : Int32) (wc' : va_W) : Array Value → State → Outcome → State → Prop := va_Qi (fun (r' : Int32) (_ : Unit) => r' = r) (KB G A wc') A
abbrev QL (G : GG) (A : Nat → Prop) (r : Int64) (wc' : va_W) : Array Value → State → Outcome → State → Prop := va_Ql (fun (r' : Int64) (_ : Unit) => r' = r) (KB G A wc') A
abbrev QV (G : GG) (A : Nat → Prop) (wc' : va_W) : Array Value → State → Outcome → State → Prop := va_Qv (fun (_ : Unit) => True) (KB G A wc') A
/-- contracts: the method answers r, the cells wc become wc' -/
def CI (l : Launch) (G : GG) (y : MethodName) (wsy : List Cond) (rm : Room) (av : List Value) (wc : va_W) (r : Int32) (wc' : va_W) : Prop :=
  ∀ sz : Nat, Met l y wsy rm (va_Pc av (KPre G wc sz)) (QI G (va_A wc sz) r wc') 0 0 (va_A wc sz)
def CL (l : Launch) (G : GG) (y : MethodName) (wsy : List Cond) (rm : Room) (av : List Value) (wc : va_W) (r : Int64) (wc' : va_W) : Prop :=
  ∀ sz : Nat, Met l y wsy rm (va_Pc av (KPre G wc sz)) (QL G (va_A wc sz) r wc') 0 0 (va_A wc sz)
def CV (l : Launch) (G : GG) (y : MethodName) (wsy : List Cond) (rm : Room) (av : List Value) (wc : va_W) (wc' : va_W) : Prop :=
  ∀ sz : Nat, Met l y wsy rm (va_Pc av (KPre G wc sz)) (QV G (va_A wc sz) wc') 0 0 (va_A wc sz)
theorem mp_fm {α : Type} {f : Nat → Option α} : ∀ {is : List Nat} {w : List α}, is.map f = w.map some → is.filterMap f = w
  | [], [], _ => rfl
  | [], _ :: _, h => by cases h
  | _ :: _, [], h => by cases h
  | i :: is, a :: w, h => by
    rw [List.map_cons, List.map_cons] at h
    injection h with h1 h2
    rw [List.filterMap_cons, h1]
    show a :: is.filterMap f = a :: w
    rw [mp_fm h2]
/-- a body that owes Qc over any frame A -/
theorem kb_of {l : Launch} {G : GG} {y : MethodName} {ws ws' : List Cond} {rm : Room} {av : List Value} {wc : va_W} {cc : ByteArray} {maxL mc ms : Nat} {ret : Option FieldType} {own : String} {Qc : (Nat → Prop) → Array Value → State → Outcome → State → Prop}
    (hy : plainName y.cls = true) (hw : ws = Cond.code y cc maxL ret :: ws') (hown : y.cls = own) (hL : (lg_sl av).length ≤ maxL)
    (body : ∀ (p : Program) (e : Env) (s : State) (m : MethodId) (args : Array Value) (below : List Frame) (meth : Method) (c : Code) (A : Nat → Prop), CallFix p m c cc maxL s args ws own → Kn G s → meth.sig.returnType = ret → meth.locks = false → meth.name = y.name → Wd G A s.heap wc s.heap [] →
      ∀ ls : Array Slot, lv_has ls maxL (lv_args 0 av) → W p l e rm s m args below meth c s.heap [] 0 0 (MQ below (Qc A) args s mc ms A) (F0 m 0 ls [])) :
    ∀ sz : Nat, Met l y ws rm (va_Pc av (KPre G wc sz)) (Qc (va_A wc sz)) mc ms (va_A wc sz) := by
  intro sz
  refine Met.ofW (cc := cc) (maxL := maxL) (ret := ret) hy hw ?_
  intro p e s m args below meth c s₁ B hml hv
  obtain ⟨rfl, hsz, hP, hK, hD0⟩ := hv
  subst hsz
  have hts := atoms_spec (ws := ws) B.pre
  have ho : s.vm.findClass own = some m.cls := by rw [← hown]; exact findClass_of_methodNamed B.named
  rw [lg_entry_eq]
  exact body p e s m _ below meth c (va_A wc s.heap.size) ⟨B.exec, B.bytes, hml, ho, hts⟩ hK B.returns B.notSynchronized (name_of_methodNamed B.named B.method).1 ⟨hP, hD0.self, va_S.rf, fun q h => Or.inr h⟩ _ (lv_entry av hL)
section ROWS
variable {p : Program} {l : Launch} {e : Env} {R : Room} {s : State} {m : MethodId} {args : Array Value} {below : List Frame} {meth : Method} {c : Code} {H : Heap} {locs : List Loc} {cells slots : Nat} {Q : State → Prop}
variable {cc : ByteArray} {nL : Nat} {Ts : List Cond} {own : String} {pc : Nat} {ls : Array Slot} {rest : List Value} {G : GG} {A : Nat → Prop} {a : Nat} {ws : va_W} {H0 : Heap}
theorem k_get (S : CallFix p m c cc nL s args Ts own) (hK : Kn G s) (hW : Wd G A H0 ws H locs) {C : String} {T : u_T} {N ci index : Nat} (hin : ∀ w ∈ u_ws C T N, w ∈ Ts) (q0 k : Nat) {fs : List Value} (he : ws[q0]? = some (a, .inr (ci, fs))) (hc : vwCl[ci]? = some (C, T, N)) (hk : k < N)
    (hlink : Cond.fieldLink own index (T k).1 (T k).2.1 (T k).2.2.1 ∈ Ts) {v : Value} (hv : fs[k]? = some v) (hdg : decode cc pc = .ok (.getfield index, 3))
    (kk : W p l e R s m args below meth c H locs cells slots Q (F0 m (pc + 3) ls (v :: rest))) : W p l e R s m args below meth c H locs cells slots Q (F0 m pc ls (.ref a :: rest)) :=
  va_get (D := G.1) (cl := vwCl) S.1 S.2.1 S.2.2.2.2 hin S.2.2.2.1 hK hW.1 q0 he hc k hk (S.2.2.2.2 _ hlink) (fun _ h => h) hv hdg kk
theorem k_put (S : CallFix p m c cc nL s args Ts own) (hK : Kn G s) (hW : Wd G A H0 ws H locs) {C : String} {T : u_T} {N ci index : Nat} (hin : ∀ w ∈ u_ws C T N, w ∈ Ts) {ty0 : Nat → FieldType} (hty : ∀ k, k < N → parseFieldDescriptor (T k).2.2.1 = some (ty0 k)) (hnm : ∀ a, a < N → ∀ b, b < N → a ≠ b → (T a).2.1 ≠ (T b).2.1) (q0 k : Nat) {fs : List Value} (he : ws[q0]? = some (a, .inr (ci, fs))) (hc : vwCl[ci]? = some (C, T, N)) (hk : k < N)
    (hlink : Cond.fieldLink own index (T k).1 (T k).2.1 (T k).2.2.1 ∈ Ts) (hfin : (T k).2.2.2 = false) {v : Value} (hn : narrow (ty0 k) v = v) (hfit : fits (ty0 k) v = true) (hl : Nat.ble (k + 1) fs.length = true) {ws' : va_W} (hws : ws.set q0 (a, .inr (ci, fs.set k v)) = ws') (hdg : decode cc pc = .ok (.putfield index, 3))
    (kk : ∀ (H1 : Heap) (locs1 : List Loc), Wd G A H0 ws' H1 locs1 → W p l e R s m args below meth c H1 locs1 cells slots Q (F0 m (pc + 3) ls rest)) : W p l e R s m args below meth c H locs cells slots Q (F0 m pc ls (v :: .ref a :: rest)) := by
  subst hws
  exact va_put (D := G.1) (cl := vwCl) S.1 S.2.1 S.2.2.2.2 hin ty0 hty hnm S.2.2.2.1 hK hW.1 hW.2.1 hW.2.2.1 q0 he hc k hk (S.2.2.2.2 _ hlink) (fun _ h => h) hfin (hty k hk) hn hfit (Nat.le_of_ble_eq_true hl) hdg (fun H1 locs1 hP hD hS => kk H1 locs1 ⟨hP, hD, hS, hW.2.2.2⟩)
theorem k_putF (S : CallFix p m c cc nL s args Ts own) (hmn : meth.name = "<init>") (hK : Kn G s) (hW : Wd G A H0 ws H locs) {C : String} {T : u_T} {N ci index : Nat} (hin : ∀ w ∈ u_ws C T N, w ∈ Ts) {ty0 : Nat → FieldType} (hty : ∀ k, k < N → parseFieldDescriptor (T k).2.2.1 = some (ty0 k)) (hnm : ∀ a, a < N → ∀ b, b < N → a ≠ b → (T a).2.1 ≠ (T b).2.1) (q0 k : Nat) {fs : List Value} (he : ws[q0]? = some (a, .inr (ci, fs))) (hc : vwCl[ci]? = some (C, T, N)) (hk : k < N)
    (hlink : Cond.fieldLink own index (T k).1 (T k).2.1 (T k).2.2.1 ∈ Ts) (hfin : (T k).2.2.2 = true) (hdecl : (T k).1 = own) {v : Value} (hn : narrow (ty0 k) v = v) (hfit : fits (ty0 k) v = true) (hl : Nat.ble (k + 1) fs.length = true) {ws' : va_W} (hws : ws.set q0 (a, .inr (ci, fs.set k v)) = ws') (hdg : decode cc pc = .ok (.putfield index, 3))
    (kk : ∀ (H1 : Heap) (locs1 : List Loc), Wd G A H0 ws' H1 locs1 → W p l e R s m args below meth c H1 locs1 cells slots Q (F0 m (pc + 3) ls rest)) : W p l e R s m args below meth c H locs cells slots Q (F0 m pc ls (v :: .ref a :: rest)) := by
  subst hws
  exact va_putF (D := G.1) (cl := vwCl) S.1 S.2.1 S.2.2.2.2 hin ty0 hty hnm S.2.2.2.1 hK hW.1 hW.2.1 hW.2.2.1 q0 he hc k hk (S.2.2.2.2 _ hlink) (fun _ h => h) hfin hmn hdecl (hty k hk) hn hfit (Nat.le_of_ble_eq_true hl) hdg (fun H1 locs1 hP hD hS => kk H1 locs1 ⟨hP, hD, hS, hW.2.2.2⟩)
theorem k_iald (S : CallFix p m c cc nL s args Ts own) (hK : Kn G s) (hW : Wd G A H0 ws H locs) (q0 : Nat) {n : Nat} {f : Nat → Int32} (ha : ws[q0]? = some (a, .inl (G.2.1, n, .inl f))) {i : Int32} (hin : vp_in i n) (hdg : decode cc pc = .ok (.iaload, 1))
    (kk : W p l e R s m args below meth c H locs cells slots Q (F0 m (pc + 1) ls (.int (f i.toNatClampNeg) :: rest))) : W p l e R s m args below meth c H locs cells slots Q (F0 m pc ls (.int i :: .ref a :: rest)) :=
  va_iald (D := G.1) (cl := vwCl) S.1 S.2.1 hK hW.1 q0 0 ha rfl hin hdg kk
theorem k_zald (S : CallFix p m c cc nL s args Ts own) (hK : Kn G s) (hW : Wd G A H0 ws H locs) (q0 : Nat) {n : Nat} {g : Nat → Bool} (ha : ws[q0]? = some (a, .inl (G.2.2.1, n, .inl (fun j => bI (g j))))) {i : Int32} (hin : vp_in i n) (hdg : decode cc pc = .ok (.baload, 1))
    (kk : W p l e R s m args below meth c H locs cells slots Q (F0 m (pc + 1) ls (.int (bI (g i.toNatClampNeg)) :: rest))) : W p l e R s m args below meth c H locs cells slots Q (F0 m pc ls (.int i :: .ref a :: rest)) :=
  va_zald (D := G.1) (cl := vwCl) S.1 S.2.1 hK hW.1 q0 1 ha rfl hin hdg kk
theorem k_iast (S : CallFix p m c cc nL s args Ts own) (hK : Kn G s) (hW : Wd G A H0 ws H locs) (q0 : Nat) {n : Nat} {f : Nat → Int32} (ha : ws[q0]? = some (a, .inl (G.2.1, n, .inl f))) {i x : Int32} (hin : vp_in i n) {ws' : va_W} (hws : ws.set q0 (a, .inl (G.2.1, n, .inl (upd f i.toNatClampNeg x))) = ws') (hdg : decode cc pc = .ok (.iastore, 1))
    (kk : ∀ (H1 : Heap) (locs1 : List Loc), Wd G A H0 ws' H1 locs1 → W p l e R s m args below meth c H1 locs1 cells slots Q (F0 m (pc + 1) ls rest)) : W p l e R s m args below meth c H locs cells slots Q (F0 m pc ls (.int x :: .int i :: .ref a :: rest)) := by
  subst hws
  exact va_iast (D := G.1) (cl := vwCl) S.1 S.2.1 hK hW.1 hW.2.1 hW.2.2.1 q0 0 ha rfl hin hdg (fun H1 locs1 hP hD hS => kk H1 locs1 ⟨hP, hD, hS, hW.2.2.2⟩)
theorem k_zast (S : CallFix p m c cc nL s args Ts own) (hK : Kn G s) (hW : Wd G A H0 ws H locs) (q0 : Nat) {n : Nat} {g : Nat → Bool} (ha : ws[q0]? = some (a, .inl (G.2.2.1, n, .inl (fun j => bI (g j))))) {i x : Int32} {b : Bool} (hx : x = bI b) (hin : vp_in i n) {ws' : va_W} (hws : ws.set q0 (a, .inl (G.2.2.1, n, .inl (fun j => bI (updB g i.toNatClampNeg b j)))) = ws') (hdg : decode cc pc = .ok (.bastore, 1))
    (kk : ∀ (H1 : Heap) (locs1 : List Loc), Wd G A H0 ws' H1 locs1 → W p l e R s m args below meth c H1 locs1 cells slots Q (F0 m (pc + 1) ls rest)) : W p l e R s m args below meth c H locs cells slots Q (F0 m pc ls (.int x :: .int i :: .ref a :: rest)) := by
  subst hws
  subst hx
  refine va_zast (D := G.1) (cl := vwCl) S.1 S.2.1 hK hW.1 hW.2.1 hW.2.2.1 q0 1 ha rfl hin hdg (fun H1 locs1 hP hD hS => ?_)
  rw [upd_bI] at hP hD
  exact kk H1 locs1 ⟨hP, hD, hS, hW.2.2.2⟩
theorem k_vld (S : CallFix p m c cc nL s args Ts own) (hK : Kn G s) (hW : Wd G A H0 ws H locs) (q0 : Nat) {n : Nat} {f : Nat → Int32} (ha : ws[q0]? = some (a, .inl (G.2.1, n, .inl f))) {i x : Int32} {k : Nat} (hin : vp_in i n) (hi : i.toNatClampNeg = k) (hfx : f k = x) (hdg : decode cc pc = .ok (.iaload, 1))
    (kk : W p l e R s m args below meth c H locs cells slots Q (F0 m (pc + 1) ls (.int x :: rest))) : W p l e R s m args below meth c H locs cells slots Q (F0 m pc ls (.int i :: .ref a :: rest)) := by
  subst hi
  subst hfx
  exact k_iald S hK hW q0 ha hin hdg kk
theorem k_vst (S : CallFix p m c cc nL s args Ts own) (hK : Kn G s) (hW : Wd G A H0 ws H locs) (q0 : Nat) {n : Nat} {f f' : Nat → Int32} (ha : ws[q0]? = some (a, .inl (G.2.1, n, .inl f))) {i x : Int32} {k : Nat} (hin : vp_in i n) (hi : i.toNatClampNeg = k) (hu : upd f k x = f') {ws' : va_W} (hws : ws.set q0 (a, .inl (G.2.1, n, .inl f')) = ws') (hdg : decode cc pc = .ok (.iastore, 1))
    (kk : ∀ (H1 : Heap) (locs1 : List Loc), Wd G A H0 ws' H1 locs1 → W p l e R s m args below meth c H1 locs1 cells slots Q (F0 m (pc + 1) ls rest)) : W p l e R s m args below meth c H locs cells slots Q (F0 m pc ls (.int x :: .int i :: .ref a :: rest)) := by
  subst hi
  subst hu
  exact k_iast S hK hW q0 ha hin hws hdg kk
theorem k_irem (hexec : p.tables.exec = Jvm.exec) (hb : c.code = cc) {x y : Int32} (hdg : decode cc pc = .ok (.irem, 1)) (hne : ¬ y = 0)
    (k : W p l e R s m args below meth c H locs cells slots Q (F0 m (pc + 1) ls (.int (irm x y) :: rest))) : W p l e R s m args below meth c H locs cells slots Q (F0 m pc ls (.int y :: .int x :: rest)) :=
  lv_irem hexec hb hdg hne k
theorem kpre_blind {wc : va_W} {sz : Nat} {av : List Value} : FrameBlind (va_Pc av (KPre G wc sz)) := by
  intro a U g mk q
  obtain ⟨q0, q1, qP, qK, qD⟩ := q
  exact ⟨q0, q1, qP, va_K.moved (u := U) (U := U.calling g mk a) (Vm.Alike.refl U.vm) qK, qD⟩
/-- the callee's cells, out of the caller's world -/
theorem Wd.cut (hW : Wd G A H0 ws H locs) (isC : List Nat) {wc : va_W} (h1 : isC.map (fun i => ws[i]?) = wc.map some) (hnC : va_nd isC = true) : va_P G.1 vwCl wc H ∧ va_D (fun _ => True) wc ∧ ∀ q : Nat, va_A wc H.size q → A q :=
  ⟨hW.1.sub isC (mp_fm h1), (hW.2.1.sub isC hnC h1).weaken (fun _ _ _ _ => trivial), va_free hW.2.1 hW.2.2.1 hW.2.2.2 isC h1⟩
/-- .. and back -/
theorem Wd.join (hW : Wd G A H0 ws H locs) (isC isR : List Nat) {wc wr w1 : va_W} (h1 : isC.map (fun i => ws[i]?) = wc.map some) (h2 : isR.map (fun i => ws[i]?) = wr.map some) (hnR : va_nd isR = true) (hdis : ∀ i ∈ isR, i ∉ isC) (hF : ∀ q : Nat, va_A wc H.size q → A q)
    {H1 : Heap} {locs1 : List Loc} (hk1 : ∀ q : Nat, q < H.size → ¬ va_A wc H.size q → H1[q]? = H[q]?) (hS1 : va_S A H0 H1 locs1) (hP1 : va_P G.1 vwCl w1 H1) (hD1 : va_D (va_A wc H.size) w1) : Wd G A H0 (wr ++ w1) H1 locs1 := by
  obtain ⟨hP, hD⟩ := va_join (wr := wr) (w1 := w1) hW.1 hW.2.1 isC isR h1 h2 hnR hdis hk1 hF hP1 hD1
  exact ⟨hP, hD, hS1, hW.2.2.2⟩
theorem Wd.recv (hK : Kn G s) (hW : Wd G A H0 ws H locs) {ci qb b : Nat} {q : vw_C} {fs : List Value} (hc : vwCl[ci]? = some q) (he : ws[qb]? = some (b, .inr (ci, fs))) : ∃ cell : Cell, H[b]? = some cell ∧ cell.vm.isStatics = false ∧ s.vm.findClass q.1 = some cell.cls := va_recv hK hW.1 hc he
theorem Wd.re (hW : Wd G A H0 ws H locs) (is : List Nat) {ws' : va_W} (hn : va_nd is = true) (hs : is.map (fun i => ws[i]?) = ws'.map some) : Wd G A H0 ws' H locs := ⟨hW.1.sub is (mp_fm hs), hW.2.1.sub is hn hs, hW.2.2.1, hW.2.2.2⟩
section CALLS
variable {C : String} {T : u_T} {N ci qb index n maxL : Nat} {y : MethodName} {bytes : ByteArray} {ret : Option FieldType} {wsy wsy' : List Cond} {rm : Room} {As st : List Value} {b : Nat} {wc wc' wr : va_W} {fs : List Value}
theorem k_callVi {r : Int32} (hC : CI l G y wsy rm (.ref b :: As) wc r wc') (S : CallFix p m c cc nL s args Ts own) (hK : Kn G s) (hW : Wd G A H0 ws H locs) (hG : GoodIn Ts (wsV own index C y wsy)) (hwy : wsy = Cond.code y bytes maxL ret :: wsy') (hrm : rm.cells = 0 ∧ rm.slots = 0)
    (hd : y.cls = C ∧ y.cls ≠ "java/lang/invoke/MethodHandle" ∧ y.cls ≠ "java/lang/invoke/VarHandle" ∧ (parseMethodDescriptor y.desc).map (fun d => d.parameters.length) = some As.length) (hR : Nat.ble (rm.frames + 1) R.frames = true ∧ Nat.ble (8 + (maxL + 11) + rm.locals) R.locals = true)
    (hq : ws[qb]? = some (b, .inr (ci, fs))) (hci : vwCl[ci]? = some (C, T, N)) (isC isR : List Nat) (h1 : isC.map (fun i => ws[i]?) = wc.map some) (h2 : isR.map (fun i => ws[i]?) = wr.map some) (hnC : va_nd isC = true) (hnR : va_nd isR = true) (hdis : ∀ i ∈ isR, i ∉ isC)
    (hst : st = As.reverse ++ .ref b :: rest) (hsl : ls.size = nL) (hro : Nat.ble ((rest.map fun v => v.category).sum) 8 = true) (hdg : decode cc pc = .ok (.invokevirtual index, 3)) (hf : cells ≤ R.cells ∧ slots ≤ R.slots)
    (kk : ∀ (H1 : Heap) (locs1 : List Loc), Wd G A H0 (wr ++ wc') H1 locs1 → W p l e R s m args below meth c H1 locs1 cells slots Q (F0 m (pc + 3) ls (.int r :: rest))) : W p l e R s m args below meth c H locs cells slots Q (F0 m pc ls st) := by
  obtain ⟨hPc, hDc, hFc⟩ := hW.cut isC h1 hnC
  subst hst
  refine va_calli (va_runV (As := As) (rest := rest) (C := C) S (hC H.size) (cwV As.length S.2.2.2.2 hG hwy hrm.1 hrm.2 hd ⟨Nat.le_of_ble_eq_true hR.1, Nat.le_of_ble_eq_true hR.2⟩) ⟨kpre_blind, hW.recv hK hci hq, fun U hU hWm => ⟨rfl, by rw [hU], by rw [hU]; exact hPc, va_K.moved hWm.alike hK, hDc⟩⟩ rfl rfl hsl rfl (lv_room (Nat.le_of_ble_eq_true hro)) hdg hf) hW.2.2.1 (fun q _ h => hFc q h) hFc (fun r' u t H1 locs1 ht hvm hw hB hz1 hk1 hS => ?_)
  obtain ⟨hP1, hK1, hD1⟩ := hB
  rw [ht] at hP1
  rw [hw]
  exact kk H1 locs1 (hW.join isC isR h1 h2 hnR hdis hFc hk1 hS hP1 hD1)
theorem k_callVl {r : Int64} (hC : CL l G y wsy rm (.ref b :: As) wc r wc') (S : CallFix p m c cc nL s args Ts own) (hK : Kn G s) (hW : Wd G A H0 ws H locs) (hG : GoodIn Ts (wsV own index C y wsy)) (hwy : wsy = Cond.code y bytes maxL ret :: wsy') (hrm : rm.cells = 0 ∧ rm.slots = 0)
    (hd : y.cls = C ∧ y.cls ≠ "java/lang/invoke/MethodHandle" ∧ y.cls ≠ "java/lang/invoke/VarHandle" ∧ (parseMethodDescriptor y.desc).map (fun d => d.parameters.length) = some As.length) (hR : Nat.ble (rm.frames + 1) R.frames = true ∧ Nat.ble (8 + (maxL + 11) + rm.locals) R.locals = true)
    (hq : ws[qb]? = some (b, .inr (ci, fs))) (hci : vwCl[ci]? = some (C, T, N)) (isC isR : List Nat) (h1 : isC.map (fun i => ws[i]?) = wc.map some) (h2 : isR.map (fun i => ws[i]?) = wr.map some) (hnC : va_nd isC = true) (hnR : va_nd isR = true) (hdis : ∀ i ∈ isR, i ∉ isC)
    (hst : st = As.reverse ++ .ref b :: rest) (hsl : ls.size = nL) (hro : Nat.ble ((rest.map fun v => v.category).sum) 8 = true) (hdg : decode cc pc = .ok (.invokevirtual index, 3)) (hf : cells ≤ R.cells ∧ slots ≤ R.slots)
    (kk : ∀ (H1 : Heap) (locs1 : List Loc), Wd G A H0 (wr ++ wc') H1 locs1 → W p l e R s m args below meth c H1 locs1 cells slots Q (F0 m (pc + 3) ls (.long r :: rest))) : W p l e R s m args below meth c H locs cells slots Q (F0 m pc ls st) := by
  obtain ⟨hPc, hDc, hFc⟩ := hW.cut isC h1 hnC
  subst hst
  refine va_calll (va_runV (As := As) (rest := rest) (C := C) S (hC H.size) (cwV As.length S.2.2.2.2 hG hwy hrm.1 hrm.2 hd ⟨Nat.le_of_ble_eq_true hR.1, Nat.le_of_ble_eq_true hR.2⟩) ⟨kpre_blind, hW.recv hK hci hq, fun U hU hWm => ⟨rfl, by rw [hU], by rw [hU]; exact hPc, va_K.moved hWm.alike hK, hDc⟩⟩ rfl rfl hsl rfl (lv_room (Nat.le_of_ble_eq_true hro)) hdg hf) hW.2.2.1 (fun q _ h => hFc q h) hFc (fun r' u t H1 locs1 ht hvm hw hB hz1 hk1 hS => ?_)
  obtain ⟨hP1, hK1, hD1⟩ := hB
  rw [ht] at hP1
  rw [hw]
  exact kk H1 locs1 (hW.join isC isR h1 h2 hnR hdis hFc hk1 hS hP1 hD1)
theorem k_callVv (hC : CV l G y wsy rm (.ref b :: As) wc wc') (S : CallFix p m c cc nL s args Ts own) (hK : Kn G s) (hW : Wd G A H0 ws H locs) (hG : GoodIn Ts (wsV own index C y wsy)) (hwy : wsy = Cond.code y bytes maxL ret :: wsy') (hrm : rm.cells = 0 ∧ rm.slots = 0)
    (hd : y.cls = C ∧ y.cls ≠ "java/lang/invoke/MethodHandle" ∧ y.cls ≠ "java/lang/invoke/VarHandle" ∧ (parseMethodDescriptor y.desc).map (fun d => d.parameters.length) = some As.length) (hR : Nat.ble (rm.frames + 1) R.frames = true ∧ Nat.ble (8 + (maxL + 11) + rm.locals) R.locals = true)
    (hq : ws[qb]? = some (b, .inr (ci, fs))) (hci : vwCl[ci]? = some (C, T, N)) (isC isR : List Nat) (h1 : isC.map (fun i => ws[i]?) = wc.map some) (h2 : isR.map (fun i => ws[i]?) = wr.map some) (hnC : va_nd isC = true) (hnR : va_nd isR = true) (hdis : ∀ i ∈ isR, i ∉ isC)
    (hst : st = As.reverse ++ .ref b :: rest) (hsl : ls.size = nL) (hro : Nat.ble ((rest.map fun v => v.category).sum) 8 = true) (hdg : decode cc pc = .ok (.invokevirtual index, 3)) (hf : cells ≤ R.cells ∧ slots ≤ R.slots)
    (kk : ∀ (H1 : Heap) (locs1 : List Loc), Wd G A H0 (wr ++ wc') H1 locs1 → W p l e R s m args below meth c H1 locs1 cells slots Q (F0 m (pc + 3) ls rest)) : W p l e R s m args below meth c H locs cells slots Q (F0 m pc ls st) := by
  obtain ⟨hPc, hDc, hFc⟩ := hW.cut isC h1 hnC
  subst hst
  refine va_callv (va_runV (As := As) (rest := rest) (C := C) S (hC H.size) (cwV As.length S.2.2.2.2 hG hwy hrm.1 hrm.2 hd ⟨Nat.le_of_ble_eq_true hR.1, Nat.le_of_ble_eq_true hR.2⟩) ⟨kpre_blind, hW.recv hK hci hq, fun U hU hWm => ⟨rfl, by rw [hU], by rw [hU]; exact hPc, va_K.moved hWm.alike hK, hDc⟩⟩ rfl rfl hsl rfl (lv_room (Nat.le_of_ble_eq_true hro)) hdg hf) hW.2.2.1 (fun q _ h => hFc q h) hFc (fun u t H1 locs1 ht hvm hw hB hz1 hk1 hS => ?_)
  obtain ⟨hP1, hK1, hD1⟩ := hB
  rw [ht] at hP1
  exact kk H1 locs1 (hW.join isC isR h1 h2 hnR hdis hFc hk1 hS hP1 hD1)
theorem k_callSi {r : Int32} (hC : CI l G y wsy rm As wc r wc') (S : CallFix p m c cc nL s args Ts own) (hK : Kn G s) (hW : Wd G A H0 ws H locs) (hG : GoodIn Ts (va_wsS own index y wsy)) (hwy : wsy = Cond.code y bytes maxL ret :: wsy') (hrm : rm.cells = 0 ∧ rm.slots = 0)
    (hd : y.cls ≠ "java/lang/invoke/MethodHandle" ∧ y.cls ≠ "java/lang/invoke/VarHandle" ∧ (parseMethodDescriptor y.desc).map (fun d => d.parameters.length) = some As.length) (hR : Nat.ble (rm.frames + 1) R.frames = true ∧ Nat.ble (8 + (maxL + 11) + rm.locals) R.locals = true)
    (isC isR : List Nat) (h1 : isC.map (fun i => ws[i]?) = wc.map some) (h2 : isR.map (fun i => ws[i]?) = wr.map some) (hnC : va_nd isC = true) (hnR : va_nd isR = true) (hdis : ∀ i ∈ isR, i ∉ isC)
    (hst : st = As.reverse ++ rest) (hsl : ls.size = nL) (hro : Nat.ble ((rest.map fun v => v.category).sum) 8 = true) (hdg : decode cc pc = .ok (.invokestatic index, 3)) (hf : cells ≤ R.cells ∧ slots ≤ R.slots)
    (kk : ∀ (H1 : Heap) (locs1 : List Loc), Wd G A H0 (wr ++ wc') H1 locs1 → W p l e R s m args below meth c H1 locs1 cells slots Q (F0 m (pc + 3) ls (.int r :: rest))) : W p l e R s m args below meth c H locs cells slots Q (F0 m pc ls st) := by
  obtain ⟨hPc, hDc, hFc⟩ := hW.cut isC h1 hnC
  subst hst
  refine va_calli (va_runS (As := As) (rest := rest) S (hC H.size) (va_cwS As.length S.2.2.2.2 hG hwy hrm.1 hrm.2 hd ⟨Nat.le_of_ble_eq_true hR.1, Nat.le_of_ble_eq_true hR.2⟩) ⟨kpre_blind, fun U hU hWm => ⟨rfl, by rw [hU], by rw [hU]; exact hPc, va_K.moved hWm.alike hK, hDc⟩⟩ rfl rfl hsl rfl (lv_room (Nat.le_of_ble_eq_true hro)) hdg hf) hW.2.2.1 (fun q _ h => hFc q h) hFc (fun r' u t H1 locs1 ht hvm hw hB hz1 hk1 hS => ?_)
  obtain ⟨hP1, hK1, hD1⟩ := hB
  rw [ht] at hP1
  rw [hw]
  exact kk H1 locs1 (hW.join isC isR h1 h2 hnR hdis hFc hk1 hS hP1 hD1)
end CALLS
section ENDS
variable {wc' wf : va_W}
theorem k_iret (S : CallFix p m c cc nL s args Ts own) (hr : meth.sig.returnType = some .int) (hlk : meth.locks = false) (hK : Kn G s) (hW : Wd G A s.heap ws H locs) (is : List Nat) (hn : va_nd is = true) (hs : is.map (fun i => ws[i]?) = wf.map some) (hwf : wf = wc') {v r : Int32} (hv : v = r) (hdg : decode cc pc = .ok (.ireturn, 1)) :
    W p l e R s m args below meth c H locs cells slots (MQ below (QI G A r wc') args s cells slots A) (F0 m pc ls [.int v]) := by
  subst hwf
  subst hv
  have h2 := hW.re is hn hs
  exact W.iret S.1 S.2.1 hr (fun t ht hWm => ⟨⟨v, (), rfl, rfl, by rw [ht]; exact h2.1, va_K.moved hWm.alike hK, h2.2.1⟩, h2.2.2.1.F ht⟩) h2.2.2.1.2.2 hdg hlk
theorem k_zret (S : CallFix p m c cc nL s args Ts own) (hr : meth.sig.returnType = some .boolean) (hlk : meth.locks = false) (hK : Kn G s) (hW : Wd G A s.heap ws H locs) (is : List Nat) (hn : va_nd is = true) (hs : is.map (fun i => ws[i]?) = wf.map some) (hwf : wf = wc') {v : Int32} {r : Bool} (hv : v = bI r) (hdg : decode cc pc = .ok (.ireturn, 1)) :
    W p l e R s m args below meth c H locs cells slots (MQ below (QI G A (bI r) wc') args s cells slots A) (F0 m pc ls [.int v]) := by
  subst hwf
  subst hv
  have h2 := hW.re is hn hs
  exact W.zret S.1 S.2.1 hr (nar_bI r) (fun t ht hWm => ⟨⟨bI r, (), rfl, rfl, by rw [ht]; exact h2.1, va_K.moved hWm.alike hK, h2.2.1⟩, h2.2.2.1.F ht⟩) h2.2.2.1.2.2 hdg hlk
theorem k_lret (S : CallFix p m c cc nL s args Ts own) (hr : meth.sig.returnType = some .long) (hlk : meth.locks = false) (hK : Kn G s) (hW : Wd G A s.heap ws H locs) (is : List Nat) (hn : va_nd is = true) (hs : is.map (fun i => ws[i]?) = wf.map some) (hwf : wf = wc') {v r : Int64} (hv : v = r) (hdg : decode cc pc = .ok (.lreturn, 1)) :
    W p l e R s m args below meth c H locs cells slots (MQ below (QL G A r wc') args s cells slots A) (F0 m pc ls [.long v]) := by
  subst hwf
  subst hv
  have h2 := hW.re is hn hs
  exact W.lret S.1 S.2.1 hr (fun t ht hWm => ⟨⟨v, (), rfl, rfl, by rw [ht]; exact h2.1, va_K.moved hWm.alike hK, h2.2.1⟩, h2.2.2.1.F ht⟩) h2.2.2.1.2.2 hdg hlk
theorem k_vret (S : CallFix p m c cc nL s args Ts own) (hr : meth.sig.returnType = none) (hlk : meth.locks = false) (hK : Kn G s) (hW : Wd G A s.heap ws H locs) (is : List Nat) (hn : va_nd is = true) (hs : is.map (fun i => ws[i]?) = wf.map some) (hwf : wf = wc') (hdg : decode cc pc = .ok (.return_, 1)) :
    W p l e R s m args below meth c H locs cells slots (MQ below (QV G A wc') args s cells slots A) (F0 m pc ls []) := by
  subst hwf
  have h2 := hW.re is hn hs
  exact W.vret S.1 S.2.1 hr (fun t ht hWm => ⟨⟨(), rfl, trivial, by rw [ht]; exact h2.1, va_K.moved hWm.alike hK, h2.2.1⟩, h2.2.2.1.F ht⟩) h2.2.2.1.2.2 hdg hlk
end ENDS
theorem k_max (S : CallFix p m c cc nL s args Ts own) {index : Nat} (hml : Cond.methodLink own index Lib.Math.max.name ∈ Ts) (h1 : Cond.static Lib.Math.max.name ∈ Ts) (h2 : Cond.initialized "java/lang/Math" ∈ Ts) (h3 : Cond.code Lib.Math.max.name Lib.Math.max.code 2 (some .int) ∈ Ts) (hsl : ls.size = nL)
    (hfr : Nat.ble 1 R.frames = true) (hlo : Nat.ble ((rest.map fun v => v.category).sum + 13) R.locals = true) (hf : cells ≤ R.cells ∧ slots ≤ R.slots) {x y : Int32} (hdg : decode cc pc = .ok (.invokestatic index, 3))
    (kk : W p l e R s m args below meth c H locs cells slots Q (F0 m (pc + 3) ls (.int (if x < y then y else x) :: rest))) : W p l e R s m args below meth c H locs cells slots Q (F0 m pc ls (.int y :: .int x :: rest)) :=
  va_mmax S.1 S.2.1 (S.2.2.1.trans hsl.symm) S.2.2.2.1 (S.2.2.2.2 _ hml) (S.2.2.2.2 _ h1) (S.2.2.2.2 _ h2) (S.2.2.2.2 _ h3) (Nat.le_of_ble_eq_true hfr) (Nat.le_of_ble_eq_true hlo) hf.1 hf.2 hdg kk
theorem k_min (S : CallFix p m c cc nL s args Ts own) {index : Nat} (hml : Cond.methodLink own index Lib.Math.min.name ∈ Ts) (h1 : Cond.static Lib.Math.min.name ∈ Ts) (h2 : Cond.initialized "java/lang/Math" ∈ Ts) (h3 : Cond.code Lib.Math.min.name Lib.Math.min.code 2 (some .int) ∈ Ts) (hsl : ls.size = nL)
    (hfr : Nat.ble 1 R.frames = true) (hlo : Nat.ble ((rest.map fun v => v.category).sum + 13) R.locals = true) (hf : cells ≤ R.cells ∧ slots ≤ R.slots) {x y : Int32} (hdg : decode cc pc = .ok (.invokestatic index, 3))
    (kk : W p l e R s m args below meth c H locs cells slots Q (F0 m (pc + 3) ls (.int (if y < x then y else x) :: rest))) : W p l e R s m args below meth c H locs cells slots Q (F0 m pc ls (.int y :: .int x :: rest)) :=
  va_mmin S.1 S.2.1 (S.2.2.1.trans hsl.symm) S.2.2.2.1 (S.2.2.2.2 _ hml) (S.2.2.2.2 _ h1) (S.2.2.2.2 _ h2) (S.2.2.2.2 _ h3) (Nat.le_of_ble_eq_true hfr) (Nat.le_of_ble_eq_true hlo) hf.1 hf.2 hdg kk
theorem k_maxl (S : CallFix p m c cc nL s args Ts own) {index : Nat} (hml : Cond.methodLink own index Lib.MathLoose.max_long.x ∈ Ts) (h1 : Cond.static Lib.MathLoose.max_long.x ∈ Ts) (h2 : Cond.initialized "java/lang/Math" ∈ Ts) (h3 : Cond.code Lib.MathLoose.max_long.x Lib.MathLoose.max_long.code 4 (some .long) ∈ Ts) (hsl : ls.size = nL)
    (hfr : Nat.ble 1 R.frames = true) (hlo : Nat.ble ((rest.map fun v => v.category).sum + 15) R.locals = true) (hf : cells ≤ R.cells ∧ slots ≤ R.slots) {x y : Int64} (hdg : decode cc pc = .ok (.invokestatic index, 3))
    (kk : W p l e R s m args below meth c H locs cells slots Q (F0 m (pc + 3) ls (.long (if y < x then x else y) :: rest))) : W p l e R s m args below meth c H locs cells slots Q (F0 m pc ls (.long y :: .long x :: rest)) :=
  va_mmax_long S.1 S.2.1 (S.2.2.1.trans hsl.symm) S.2.2.2.1 (S.2.2.2.2 _ hml) (S.2.2.2.2 _ h1) (S.2.2.2.2 _ h2) (S.2.2.2.2 _ h3) (Nat.le_of_ble_eq_true hfr) (Nat.le_of_ble_eq_true hlo) hf.1 hf.2 hdg kk
theorem k_minl (S : CallFix p m c cc nL s args Ts own) {index : Nat} (hml : Cond.methodLink own index Lib.MathLoose.min_long.x ∈ Ts) (h1 : Cond.static Lib.MathLoose.min_long.x ∈ Ts) (h2 : Cond.initialized "java/lang/Math" ∈ Ts) (h3 : Cond.code Lib.MathLoose.min_long.x Lib.MathLoose.min_long.code 4 (some .long) ∈ Ts) (hsl : ls.size = nL)
    (hfr : Nat.ble 1 R.frames = true) (hlo : Nat.ble ((rest.map fun v => v.category).sum + 15) R.locals = true) (hf : cells ≤ R.cells ∧ slots ≤ R.slots) {x y : Int64} (hdg : decode cc pc = .ok (.invokestatic index, 3))
    (kk : W p l e R s m args below meth c H locs cells slots Q (F0 m (pc + 3) ls (.long (if y < x then y else x) :: rest))) : W p l e R s m args below meth c H locs cells slots Q (F0 m pc ls (.long y :: .long x :: rest)) :=
  va_mmin_long S.1 S.2.1 (S.2.2.1.trans hsl.symm) S.2.2.2.1 (S.2.2.2.2 _ hml) (S.2.2.2.2 _ h1) (S.2.2.2.2 _ h2) (S.2.2.2.2 _ h3) (Nat.le_of_ble_eq_true hfr) (Nat.le_of_ble_eq_true hlo) hf.1 hf.2 hdg kk
theorem k_ldc (S : CallFix p m c cc nL s args Ts own) {index : Nat} {v : Int32} (hconst : Cond.constant own index v ∈ Ts) (hdg : decode cc pc = .ok (.ldc index, 2)) (k : W p l e R s m args below meth c H locs cells slots Q (F0 m (pc + 2) ls (.int v :: rest))) : W p l e R s m args below meth c H locs cells slots Q (F0 m pc ls rest) :=
  lv_ldc S.1 S.2.1 S.2.2.2.1 (S.2.2.2.2 _ hconst) hdg k
theorem k_ldc2 (S : CallFix p m c cc nL s args Ts own) {index : Nat} {v : Int64} (hconst : Cond.constantLong own index v ∈ Ts) (hdg : decode cc pc = .ok (.ldc2_w index, 3)) (k : W p l e R s m args below meth c H locs cells slots Q (F0 m (pc + 3) ls (.long v :: rest))) : W p l e R s m args below meth c H locs cells slots Q (F0 m pc ls rest) :=
  lv_ldc2 S.1 S.2.1 S.2.2.2.1 (S.2.2.2.2 _ hconst) hdg k
end ROWS
theorem CI_of {l : Launch} {G : GG} {y : MethodName} {ws ws' : List Cond} {rm : Room} {av : List Value} {wc wc' : va_W} {r : Int32} {cc : ByteArray} {maxL : Nat} {ret : Option FieldType} {own : String}
    (hy : plainName y.cls = true) (hw : ws = Cond.code y cc maxL ret :: ws') (hown : y.cls = own) (hL : (lg_sl av).length ≤ maxL)
    (body : ∀ (p : Program) (e : Env) (s : State) (m : MethodId) (args : Array Value) (below : List Frame) (meth : Method) (c : Code) (A : Nat → Prop), CallFix p m c cc maxL s args ws own → Kn G s → meth.sig.returnType = ret → meth.locks = false → meth.name = y.name → Wd G A s.heap wc s.heap [] →
      ∀ ls : Array Slot, lv_has ls maxL (lv_args 0 av) → W p l e rm s m args below meth c s.heap [] 0 0 (MQ below (QI G A r wc') args s 0 0 A) (F0 m 0 ls [])) : CI l G y ws rm av wc r wc' :=
  kb_of (Qc := fun A => QI G A r wc') hy hw hown hL body
theorem CL_of {l : Launch} {G : GG} {y : MethodName} {ws ws' : List Cond} {rm : Room} {av : List Value} {wc wc' : va_W} {r : Int64} {cc : ByteArray} {maxL : Nat} {ret : Option FieldType} {own : String}
    (hy : plainName y.cls = true) (hw : ws = Cond.code y cc maxL ret :: ws') (hown : y.cls = own) (hL : (lg_sl av).length ≤ maxL)
    (body : ∀ (p : Program) (e : Env) (s : State) (m : MethodId) (args : Array Value) (below : List Frame) (meth : Method) (c : Code) (A : Nat → Prop), CallFix p m c cc maxL s args ws own → Kn G s → meth.sig.returnType = ret → meth.locks = false → meth.name = y.name → Wd G A s.heap wc s.heap [] →
      ∀ ls : Array Slot, lv_has ls maxL (lv_args 0 av) → W p l e rm s m args below meth c s.heap [] 0 0 (MQ below (QL G A r wc') args s 0 0 A) (F0 m 0 ls [])) : CL l G y ws rm av wc r wc' :=
  kb_of (Qc := fun A => QL G A r wc') hy hw hown hL body
theorem CV_of {l : Launch} {G : GG} {y : MethodName} {ws ws' : List Cond} {rm : Room} {av : List Value} {wc wc' : va_W} {cc : ByteArray} {maxL : Nat} {ret : Option FieldType} {own : String}
    (hy : plainName y.cls = true) (hw : ws = Cond.code y cc maxL ret :: ws') (hown : y.cls = own) (hL : (lg_sl av).length ≤ maxL)
    (body : ∀ (p : Program) (e : Env) (s : State) (m : MethodId) (args : Array Value) (below : List Frame) (meth : Method) (c : Code) (A : Nat → Prop), CallFix p m c cc maxL s args ws own → Kn G s → meth.sig.returnType = ret → meth.locks = false → meth.name = y.name → Wd G A s.heap wc s.heap [] →
      ∀ ls : Array Slot, lv_has ls maxL (lv_args 0 av) → W p l e rm s m args below meth c s.heap [] 0 0 (MQ below (QV G A wc') args s 0 0 A) (F0 m 0 ls [])) : CV l G y ws rm av wc wc' :=
  kb_of (Qc := fun A => QV G A wc') hy hw hown hL body
-- the cells
abbrev S7 : Type := Int32 × Int32 × Int32 × Int32 × Int32 × Int32 × Int32
abbrev S5 : Type := Int32 × Int32 × Int32 × Int32 × Int32
abbrev S3 : Type := Int32 × Int32 × Int32
abbrev cS (a : Nat) (v : S7) : Nat × va_E := (a, .inr (3, [.int v.1, .int v.2.1, .int v.2.2.1, .int v.2.2.2.1, .int v.2.2.2.2.1, .int v.2.2.2.2.2.1, .int v.2.2.2.2.2.2]))
abbrev cP (a : Nat) (v : S3) : Nat × va_E := (a, .inr (2, [.int v.1, .int v.2.1, .int v.2.2]))
abbrev cB (h : Nat → Nat) (n : Int32) : Nat × va_E := (h 2, .inr (0, [.int n, .ref (h 6), .ref (h 7), .ref (h 8), .ref (h 9), .ref (h 10)]))
abbrev cH (h : Nat → Nat) : Nat × va_E := (h 3, .inr (1, [.ref (h 11), .ref (h 12), .ref (h 13), .ref (h 14), .ref (h 15), .ref (h 16), .ref (h 17)]))
abbrev cF (h : Nat → Nat) (n : Int32) : Nat × va_E := (h 0, .inr (4, [.ref (h 1), .ref (h 2), .ref (h 3), .ref (h 4), .ref (h 5), .int n]))
abbrev aI (G : GG) (a n : Nat) (f : Nat → Int32) : Nat × va_E := (a, .inl (G.2.1, n, .inl f))
abbrev aZ (G : GG) (a n : Nat) (g : Nat → Bool) : Nat × va_E := (a, .inl (G.2.2.1, n, .inl (fun j => bI (g j))))
/-- the law's policy, in its row of seven; what it keeps besides, in its row of five -/
def pF (v : S7) : Nat → Int32 := fun k => match k with
  | 0 => v.1
  | 1 => v.2.1
  | 2 => v.2.2.1
  | 3 => v.2.2.2.1
  | 4 => v.2.2.2.2.1
  | 5 => v.2.2.2.2.2.1
  | 6 => v.2.2.2.2.2.2
  | _ => 0
def nF (v : S5) : Nat → Int32 := fun k => match k with
  | 0 => v.1
  | 1 => v.2.1
  | 2 => v.2.2.1
  | 3 => v.2.2.2.1
  | 4 => v.2.2.2.2
  | _ => 0
theorem ix_0 : (0 : Int32).toNatClampNeg = 0 := by decide
theorem ix_1 : (1 : Int32).toNatClampNeg = 1 := by decide
theorem ix_2 : (2 : Int32).toNatClampNeg = 2 := by decide
theorem ix_3 : (3 : Int32).toNatClampNeg = 3 := by decide
theorem ix_4 : (4 : Int32).toNatClampNeg = 4 := by decide
theorem ix_5 : (5 : Int32).toNatClampNeg = 5 := by decide
theorem ix_6 : (6 : Int32).toNatClampNeg = 6 := by decide
theorem vi7_0 : vp_in 0 7 := by
  rw [vp_in_iff]
  decide
theorem up_p0 (v : S7) (x : Int32) : upd (pF v) 0 x = pF (x, v.2.1, v.2.2.1, v.2.2.2.1, v.2.2.2.2.1, v.2.2.2.2.2.1, v.2.2.2.2.2.2) := by
  funext j
  match j with
  | 0 => rfl
  | 1 => rfl
  | 2 => rfl
  | 3 => rfl
  | 4 => rfl
  | 5 => rfl
  | 6 => rfl
  | j + 7 => rfl
theorem vi7_1 : vp_in 1 7 := by
  rw [vp_in_iff]
  decide
theorem up_p1 (v : S7) (x : Int32) : upd (pF v) 1 x = pF (v.1, x, v.2.2.1, v.2.2.2.1, v.2.2.2.2.1, v.2.2.2.2.2.1, v.2.2.2.2.2.2) := by
  funext j
  match j with
  | 0 => rfl
  | 1 => rfl
  | 2 => rfl
  | 3 => rfl
  | 4 => rfl
  | 5 => rfl
  | 6 => rfl
  | j + 7 => rfl
theorem vi7_2 : vp_in 2 7 := by
  rw [vp_in_iff]
  decide
theorem up_p2 (v : S7) (x : Int32) : upd (pF v) 2 x = pF (v.1, v.2.1, x, v.2.2.2.1, v.2.2.2.2.1, v.2.2.2.2.2.1, v.2.2.2.2.2.2) := by
  funext j
  match j with
  | 0 => rfl
  | 1 => rfl
  | 2 => rfl
  | 3 => rfl
  | 4 => rfl
  | 5 => rfl
  | 6 => rfl
  | j + 7 => rfl
theorem vi7_3 : vp_in 3 7 := by
  rw [vp_in_iff]
  decide
theorem up_p3 (v : S7) (x : Int32) : upd (pF v) 3 x = pF (v.1, v.2.1, v.2.2.1, x, v.2.2.2.2.1, v.2.2.2.2.2.1, v.2.2.2.2.2.2) := by
  funext j
  match j with
  | 0 => rfl
  | 1 => rfl
  | 2 => rfl
  | 3 => rfl
  | 4 => rfl
  | 5 => rfl
  | 6 => rfl
  | j + 7 => rfl
theorem vi7_4 : vp_in 4 7 := by
  rw [vp_in_iff]
  decide
theorem up_p4 (v : S7) (x : Int32) : upd (pF v) 4 x = pF (v.1, v.2.1, v.2.2.1, v.2.2.2.1, x, v.2.2.2.2.2.1, v.2.2.2.2.2.2) := by
  funext j
  match j with
  | 0 => rfl
  | 1 => rfl
  | 2 => rfl
  | 3 => rfl
  | 4 => rfl
  | 5 => rfl
  | 6 => rfl
  | j + 7 => rfl
theorem vi7_5 : vp_in 5 7 := by
  rw [vp_in_iff]
  decide
theorem up_p5 (v : S7) (x : Int32) : upd (pF v) 5 x = pF (v.1, v.2.1, v.2.2.1, v.2.2.2.1, v.2.2.2.2.1, x, v.2.2.2.2.2.2) := by
  funext j
  match j with
  | 0 => rfl
  | 1 => rfl
  | 2 => rfl
  | 3 => rfl
  | 4 => rfl
  | 5 => rfl
  | 6 => rfl
  | j + 7 => rfl
theorem vi7_6 : vp_in 6 7 := by
  rw [vp_in_iff]
  decide
theorem up_p6 (v : S7) (x : Int32) : upd (pF v) 6 x = pF (v.1, v.2.1, v.2.2.1, v.2.2.2.1, v.2.2.2.2.1, v.2.2.2.2.2.1, x) := by
  funext j
  match j with
  | 0 => rfl
  | 1 => rfl
  | 2 => rfl
  | 3 => rfl
  | 4 => rfl
  | 5 => rfl
  | 6 => rfl
  | j + 7 => rfl
theorem vi5_0 : vp_in 0 5 := by
  rw [vp_in_iff]
  decide
theorem up_n0 (v : S5) (x : Int32) : upd (nF v) 0 x = nF (x, v.2.1, v.2.2.1, v.2.2.2.1, v.2.2.2.2) := by
  funext j
  match j with
  | 0 => rfl
  | 1 => rfl
  | 2 => rfl
  | 3 => rfl
  | 4 => rfl
  | j + 5 => rfl
theorem vi5_1 : vp_in 1 5 := by
  rw [vp_in_iff]
  decide
theorem up_n1 (v : S5) (x : Int32) : upd (nF v) 1 x = nF (v.1, x, v.2.2.1, v.2.2.2.1, v.2.2.2.2) := by
  funext j
  match j with
  | 0 => rfl
  | 1 => rfl
  | 2 => rfl
  | 3 => rfl
  | 4 => rfl
  | j + 5 => rfl
theorem vi5_2 : vp_in 2 5 := by
  rw [vp_in_iff]
  decide
theorem up_n2 (v : S5) (x : Int32) : upd (nF v) 2 x = nF (v.1, v.2.1, x, v.2.2.2.1, v.2.2.2.2) := by
  funext j
  match j with
  | 0 => rfl
  | 1 => rfl
  | 2 => rfl
  | 3 => rfl
  | 4 => rfl
  | j + 5 => rfl
theorem vi5_3 : vp_in 3 5 := by
  rw [vp_in_iff]
  decide
theorem up_n3 (v : S5) (x : Int32) : upd (nF v) 3 x = nF (v.1, v.2.1, v.2.2.1, x, v.2.2.2.2) := by
  funext j
  match j with
  | 0 => rfl
  | 1 => rfl
  | 2 => rfl
  | 3 => rfl
  | 4 => rfl
  | j + 5 => rfl
theorem vi5_4 : vp_in 4 5 := by
  rw [vp_in_iff]
  decide
theorem up_n4 (v : S5) (x : Int32) : upd (nF v) 4 x = nF (v.1, v.2.1, v.2.2.1, v.2.2.2.1, x) := by
  funext j
  match j with
  | 0 => rfl
  | 1 => rfl
  | 2 => rfl
  | 3 => rfl
  | 4 => rfl
  | j + 5 => rfl
end KIT
