set_option maxRecDepth 100000 in
theorem st_in4 : ∀ w ∈ u_ws RX4 TX4 6, w ∈ wsL_law := by decide +kernel
set_option maxRecDepth 100000 in
theorem st_in5 : ∀ w ∈ u_ws RX5 TX5 18, w ∈ wsL_law := by decide +kernel
theorem st_arr {s : State} {args : Array Value} {ty : FieldType} (h : (Cond.arrayClass ty).before args s = true) : ∃ c : ClassId, ArrOfT s c ty ∧ s.vm.findClass ("[" ++ ty.toString) = some c := by
  obtain ⟨c, k, p, h1, h2, h3⟩ := Cond.arrayClass_spec h
  exact ⟨c, fun n z => ⟨fun k h => (by cases h), k, h2, p, h3⟩, h1⟩
set_option maxRecDepth 100000 in
theorem st_str : ∀ q ∈ xStrs, Cond.stringRef RX4 q.1 q.2 ∈ lw_tbl := by decide +kernel
theorem inv0 : Inv 0 0 (30, 5000000, 0) (fun _ => 0) (fun _ => 0) (fun _ => 0) (fun _ => false) ((fun _ => false), (fun _ => 0), (fun _ => 0), (fun _ => 0), (fun _ => 0), (fun _ => 0), (fun _ => 0), (fun _ => 0), z7) := by
  refine ⟨by omega, by omega, ⟨30, 5000000, 0, by decide, by decide +kernel, by decide, by omega, by omega, by omega, by omega, Or.inl rfl⟩, fun k hk => by omega, fun k hk => by omega, fun m hm => ?_, rfl, fun k m hk => by omega⟩
  have e : m = 0 := by omega
  subst e
  rfl
set_option maxHeartbeats 8000000 in
set_option maxRecDepth 100000 in
/-- THE LAW, from its entry -/
theorem whole_start {p : Program} {e : Env} {s : State} {m : MethodId} {below : List Frame} {meth : Method} {c : Code} (l : Launch) (hflags : l.flags = flags0) {b L : Nat} {xs : Nat → Int32} (hL : L ≤ 2048) (C0 : lw_At p s m meth c b L xs) : W p l e room_1 s m #[Value.ref b] below meth c s.heap [] 0 0 (lw_Z below #[Value.ref b] s) (entryFrame m ([Value.ref b] : List Value).toArray 7) := by
  obtain ⟨hx, hb, hr, hml, hown, hts, hX, hbl, hlocks, hgv⟩ := id C0
  have hs := flat_of_before _ hgv
  have hst : l.stackTraces = false := by
    unfold Launch.stackTraces
    rw [hflags]
    decide +kernel
  have S : CallFix p m c cL_law 7 s #[Value.ref b] wsL_law RL := ⟨hx, hb, hml, hown, fun w h => hts w (wsL_law_in w h)⟩
  obtain ⟨c0, iS0, hKn0⟩ := u_known (C := RX0) (T := TX0) (N := 6) (n := 6) hts inX0 (hts (.instantiable RX0 6) (by decide +kernel))
  obtain ⟨c1, iS1, hKn1⟩ := u_known (C := RX1) (T := TX1) (N := 7) (n := 7) hts inX1 (hts (.instantiable RX1 7) (by decide +kernel))
  obtain ⟨c2, iS2, hKn2⟩ := u_known (C := RX2) (T := TX2) (N := 3) (n := 3) hts inX2 (hts (.instantiable RX2 3) (by decide +kernel))
  obtain ⟨c3, iS3, hKn3⟩ := u_known (C := RX3) (T := TX3) (N := 7) (n := 7) hts inX3 (hts (.instantiable RX3 7) (by decide +kernel))
  obtain ⟨c4, iS4, hKn4⟩ := u_known (C := RX4) (T := TX4) (N := 6) (n := 6) hts inX4 (hts (.instantiable RX4 6) (by decide +kernel))
  obtain ⟨c5, iS5, hKn5⟩ := u_known (C := RX5) (T := TX5) (N := 18) (n := 18) hts inX5 (hts (.instantiable RX5 18) (by decide +kernel))
  obtain ⟨dC, dI, hKc⟩ : ∃ (dC : Nat → ClassId) (dI : Nat → Nat → Nat), ∀ (k : Nat) (q : vw_C), vwCl[k]? = some q → u_Kn s q.1 q.2.1 q.2.2 (dC k) (dI k) := by
    refine ⟨fun k => if k = 0 then c0 else if k = 1 then c1 else if k = 2 then c2 else if k = 3 then c3 else if k = 4 then c4 else c5, fun k => if k = 0 then iS0 else if k = 1 then iS1 else if k = 2 then iS2 else if k = 3 then iS3 else if k = 4 then iS4 else iS5, ?_⟩
    intro k q hq
    match k, hq with
    | 0, hq => cases hq; exact hKn0
    | 1, hq => cases hq; exact hKn1
    | 2, hq => cases hq; exact hKn2
    | 3, hq => cases hq; exact hKn3
    | 4, hq => cases hq; exact hKn4
    | 5, hq => cases hq; exact hKn5
    | k + 6, hq => simp [vwCl] at hq
  obtain ⟨gI, hAI, hBI⟩ := st_arr (hts (.arrayClass .int) (by decide +kernel))
  obtain ⟨gZ, hAZ, hBZ⟩ := st_arr (hts (.arrayClass .boolean) (by decide +kernel))
  obtain ⟨gJ, hAJ, hBJ⟩ := st_arr (hts (.arrayClass .long) (by decide +kernel))
  obtain ⟨G, hG⟩ : ∃ G : GG, G = ((dC, dI), gI, gZ, gJ) := ⟨_, rfl⟩
  have hK : Kn G s := by
    subst hG
    refine ⟨hKc, fun k q hk => ?_⟩
    match k, hk with
    | 0, hk => cases hk; exact ⟨hAI, hBI⟩
    | 1, hk => cases hk; exact ⟨hAZ, hBZ⟩
    | 2, hk => cases hk; exact ⟨hAJ, hBJ⟩
    | k + 3, hk => simp at hk
  clear hG
  have hXE : XE s := by
    refine ⟨va_Nw.of rfl (hts (.castable nIAE nIAE) (by decide +kernel)), va_Nw.of rfl (hts (.castable nISE nISE) (by decide +kernel)), va_Nw.of rfl (hts (.castable nIOB nIOB) (by decide +kernel)), va_Nc.of (hs (.not (.castable nISE nIAE)) (by decide +kernel)), ⟨va_Nw.of rfl (hts (xD "java/lang/RuntimeException") (by decide +kernel)), va_Nw.of rfl (hts (xD "java/lang/Exception") (by decide +kernel)), va_Nw.of rfl (hts (xD "java/lang/Throwable") (by decide +kernel))⟩, fun q hq => ?_⟩
    have h1 := hts _ (st_str q hq)
    obtain ⟨-, -, -, a, -, -, -, -, -, hev⟩ := Cond.stringRef_spec hKn4.2.1 h1
    exact ⟨a, vk_R.of h1 hev⟩
  have hAn : ∀ a : Nat, a < s.heap.size → ¬ (fun q : Nat => s.heap.size ≤ q) a := fun a h => Nat.not_le.mpr h
  have hXZ : XZ (fun q : Nat => s.heap.size ≤ q) s s.heap := ⟨vx_Zqof (hts (.laysStatic Bundle.tN "UNASSIGNED_STACK" Bundle.steD) (by decide +kernel)) (hts (.initialized Bundle.tN) (by decide +kernel)) (hs (.isRef (.static Bundle.tN "UNASSIGNED_STACK" Bundle.steD)) (by decide +kernel)) hAn, vx_Zqof (hts (.laysStatic Bundle.tN "SUPPRESSED_SENTINEL" Bundle.listD) (by decide +kernel)) (hts (.initialized Bundle.tN) (by decide +kernel)) (hs (.isRef (.static Bundle.tN "SUPPRESSED_SENTINEL" Bundle.listD)) (by decide +kernel)) hAn⟩
  have X : LWX p l s m #[Value.ref b] c G (fun q : Nat => s.heap.size ≤ q) b L xs := ⟨S, hK, hXE, hXZ, hst, hX, hbl, hAn b hbl, hL⟩
  have hW : Wd G (fun q : Nat => s.heap.size ≤ q) s.heap [] s.heap [] := ⟨fun k q h => by simp at h, ⟨fun i j p q h => by simp at h, fun k q h => by simp at h⟩, va_S.rf, fun q h => h⟩
  have hl := lv_entry ([.ref b]) (n := 7) (Nat.le_of_ble_eq_true rfl)
  rw [lg_entry_eq]
  generalize (lg_sl ([.ref b]) ++ List.replicate (7 - (lg_sl ([.ref b])).length) Slot.unset).toArray = ls at hl ⊢
  have hl : lv_has ls 7 [(0, .ref b)] := hl
  refine k_new (C := RX4) (T := TX4) (N := 6) (ci := 4) (fs := [.null, .null, .null, .null, .null, .int 0]) S hK hW st_in4 tyX4_ok (by decide +kernel) (by decide +kernel) (by decide +kernel) rfl (fun j hj => by rcases (show j = 0 ∨ j = 1 ∨ j = 2 ∨ j = 3 ∨ j = 4 ∨ j = 5 by omega) with rfl | rfl | rfl | rfl | rfl | rfl <;> rfl) rfl rfl dL_law_0 (fun q0 H hW => ?_)
  have hW : Wd G (fun q : Nat => s.heap.size ≤ q) s.heap [(q0, .inr (4, [.null, .null, .null, .null, .null, .int 0]))] H _ := hW
  refine lv_dup hx hb dL_law_3 rfl ?_
  refine k_callIn (rest := [.ref q0]) (wr := []) (c_X4_init l G q0) S hK hW gL_law_X4_init rfl ⟨rfl, rfl⟩ (by decide +kernel) (by decide +kernel) (by decide +kernel) rfl nd_X4_init ⟨rfl, rfl⟩ [0] [] rfl rfl rfl rfl (by decide) hl.1 rfl dL_law_4 ⟨rfl, rfl⟩ (fun u H locs hW => ?_)
  have hW : Wd G (fun q : Nat => s.heap.size ≤ q) s.heap [(q0, .inr (4, [.ref (u 0), .ref (u 1), .ref (u 2), .ref (u 3), .ref (u 4), .int 0])), ((u 0), .inr (2, [.int 30, .int 5000000, .int 0])), ((u 1), .inr (0, [.int 0, .ref (u 5), .ref (u 6), .ref (u 7), .ref (u 8), .ref (u 9)])), ((u 2), .inr (1, [.ref (u 10), .ref (u 11), .ref (u 12), .ref (u 13), .ref (u 14), .ref (u 15), .ref (u 16)])), ((u 3), .inr (3, [.int 0, .int 0, .int 0, .int 0, .int 0, .int 0, .int 0])), ((u 4), .inr (3, [.int 0, .int 0, .int 0, .int 0, .int 0, .int 0, .int 0])), aI G (u 5) 60 (fun _ => 0), aI G (u 6) 60 (fun _ => 0), aI G (u 7) 60 (fun _ => 0), aZ G (u 8) 60 (fun _ => false), aZ G (u 9) 60 (fun _ => false), aI G (u 10) 121 (fun _ => 0), aI G (u 11) 121 (fun _ => 0), aI G (u 12) 121 (fun _ => 0), aI G (u 13) 121 (fun _ => 0), aI G (u 14) 121 (fun _ => 0), aI G (u 15) 121 (fun _ => 0), aI G (u 16) 121 (fun _ => 0)] H locs := hW
  refine lv_astore_n (lv' := [(1, .ref q0), (0, .ref b)]) hx hb dL_law_7 rfl hl (by decide) rfl (fun ls hl => ?_)
  refine k_new (C := RX5) (T := TX5) (N := 18) (ci := 5) (fs := [.int 0, .int 0, .int 0, .int 0, .int 0, .null, .null, .null, .null, .null, .int 0, .int 0, .int 0, .int 0, .int 0, .int 0, .int 0, .int 0]) S hK hW st_in5 tyX5_ok (by decide +kernel) (by decide +kernel) (by decide +kernel) rfl (fun j hj => by rcases (show j = 0 ∨ j = 1 ∨ j = 2 ∨ j = 3 ∨ j = 4 ∨ j = 5 ∨ j = 6 ∨ j = 7 ∨ j = 8 ∨ j = 9 ∨ j = 10 ∨ j = 11 ∨ j = 12 ∨ j = 13 ∨ j = 14 ∨ j = 15 ∨ j = 16 ∨ j = 17 by omega) with rfl | rfl | rfl | rfl | rfl | rfl | rfl | rfl | rfl | rfl | rfl | rfl | rfl | rfl | rfl | rfl | rfl | rfl <;> rfl) rfl rfl dL_law_8 (fun q8 H hW => ?_)
  have hW : Wd G (fun q : Nat => s.heap.size ≤ q) s.heap [(q0, .inr (4, [.ref (u 0), .ref (u 1), .ref (u 2), .ref (u 3), .ref (u 4), .int 0])), ((u 0), .inr (2, [.int 30, .int 5000000, .int 0])), ((u 1), .inr (0, [.int 0, .ref (u 5), .ref (u 6), .ref (u 7), .ref (u 8), .ref (u 9)])), ((u 2), .inr (1, [.ref (u 10), .ref (u 11), .ref (u 12), .ref (u 13), .ref (u 14), .ref (u 15), .ref (u 16)])), ((u 3), .inr (3, [.int 0, .int 0, .int 0, .int 0, .int 0, .int 0, .int 0])), ((u 4), .inr (3, [.int 0, .int 0, .int 0, .int 0, .int 0, .int 0, .int 0])), aI G (u 5) 60 (fun _ => 0), aI G (u 6) 60 (fun _ => 0), aI G (u 7) 60 (fun _ => 0), aZ G (u 8) 60 (fun _ => false), aZ G (u 9) 60 (fun _ => false), aI G (u 10) 121 (fun _ => 0), aI G (u 11) 121 (fun _ => 0), aI G (u 12) 121 (fun _ => 0), aI G (u 13) 121 (fun _ => 0), aI G (u 14) 121 (fun _ => 0), aI G (u 15) 121 (fun _ => 0), aI G (u 16) 121 (fun _ => 0), (q8, .inr (5, [.int 0, .int 0, .int 0, .int 0, .int 0, .null, .null, .null, .null, .null, .int 0, .int 0, .int 0, .int 0, .int 0, .int 0, .int 0, .int 0]))] H _ := hW
  refine lv_dup hx hb dL_law_11 rfl ?_
  refine k_callIn (rest := [.ref q8]) (wr := [(q0, .inr (4, [.ref (u 0), .ref (u 1), .ref (u 2), .ref (u 3), .ref (u 4), .int 0])), ((u 0), .inr (2, [.int 30, .int 5000000, .int 0])), ((u 1), .inr (0, [.int 0, .ref (u 5), .ref (u 6), .ref (u 7), .ref (u 8), .ref (u 9)])), ((u 2), .inr (1, [.ref (u 10), .ref (u 11), .ref (u 12), .ref (u 13), .ref (u 14), .ref (u 15), .ref (u 16)])), ((u 3), .inr (3, [.int 0, .int 0, .int 0, .int 0, .int 0, .int 0, .int 0])), ((u 4), .inr (3, [.int 0, .int 0, .int 0, .int 0, .int 0, .int 0, .int 0])), aI G (u 5) 60 (fun _ => 0), aI G (u 6) 60 (fun _ => 0), aI G (u 7) 60 (fun _ => 0), aZ G (u 8) 60 (fun _ => false), aZ G (u 9) 60 (fun _ => false), aI G (u 10) 121 (fun _ => 0), aI G (u 11) 121 (fun _ => 0), aI G (u 12) 121 (fun _ => 0), aI G (u 13) 121 (fun _ => 0), aI G (u 14) 121 (fun _ => 0), aI G (u 15) 121 (fun _ => 0), aI G (u 16) 121 (fun _ => 0)]) (c_X5_init l G q8) S hK hW gL_law_X5_init rfl ⟨rfl, rfl⟩ (by decide +kernel) (by decide +kernel) (by decide +kernel) rfl nd_X5_init ⟨rfl, rfl⟩ [18] [0, 1, 2, 3, 4, 5, 6, 7, 8, 9, 10, 11, 12, 13, 14, 15, 16, 17] rfl rfl rfl rfl (by decide) hl.1 rfl dL_law_12 ⟨rfl, rfl⟩ (fun w H locs hW => ?_)
  have hW : Wd G (fun q : Nat => s.heap.size ≤ q) s.heap [(q0, .inr (4, [.ref (u 0), .ref (u 1), .ref (u 2), .ref (u 3), .ref (u 4), .int 0])), ((u 0), .inr (2, [.int 30, .int 5000000, .int 0])), ((u 1), .inr (0, [.int 0, .ref (u 5), .ref (u 6), .ref (u 7), .ref (u 8), .ref (u 9)])), ((u 2), .inr (1, [.ref (u 10), .ref (u 11), .ref (u 12), .ref (u 13), .ref (u 14), .ref (u 15), .ref (u 16)])), ((u 3), .inr (3, [.int 0, .int 0, .int 0, .int 0, .int 0, .int 0, .int 0])), ((u 4), .inr (3, [.int 0, .int 0, .int 0, .int 0, .int 0, .int 0, .int 0])), aI G (u 5) 60 (fun _ => 0), aI G (u 6) 60 (fun _ => 0), aI G (u 7) 60 (fun _ => 0), aZ G (u 8) 60 (fun _ => false), aZ G (u 9) 60 (fun _ => false), aI G (u 10) 121 (fun _ => 0), aI G (u 11) 121 (fun _ => 0), aI G (u 12) 121 (fun _ => 0), aI G (u 13) 121 (fun _ => 0), aI G (u 14) 121 (fun _ => 0), aI G (u 15) 121 (fun _ => 0), aI G (u 16) 121 (fun _ => 0), (q8, .inr (5, [.int 30, .int 5000000, .int 0, .int 0, .int 0, .ref (w 0), .ref (w 1), .ref (w 2), .ref (w 3), .ref (w 4), .int 0, .int 0, .int 0, .int 0, .int 0, .int 0, .int 0, .int 0])), aI G (w 0) 60 (fun _ => 0), aI G (w 1) 60 (fun _ => 0), aI G (w 2) 60 (fun _ => 0), aZ G (w 3) 60 (fun _ => false), aZ G (w 4) 60 (fun _ => false)] H locs := hW
  refine lv_astore_n (lv' := [(2, .ref q8), (1, .ref q0), (0, .ref b)]) hx hb dL_law_15 rfl hl (by decide) rfl (fun ls hl => ?_)
  refine lv_iconst (v := 1) hx hb dL_law_16 (by decide) ?_
  refine k_newaJ S hK hW (by decide +kernel) 1 (by decide) rfl rfl rfl rfl dL_law_17 (fun q17 H hW => ?_)
  have hW : Wd G (fun q : Nat => s.heap.size ≤ q) s.heap [(q0, .inr (4, [.ref (u 0), .ref (u 1), .ref (u 2), .ref (u 3), .ref (u 4), .int 0])), ((u 0), .inr (2, [.int 30, .int 5000000, .int 0])), ((u 1), .inr (0, [.int 0, .ref (u 5), .ref (u 6), .ref (u 7), .ref (u 8), .ref (u 9)])), ((u 2), .inr (1, [.ref (u 10), .ref (u 11), .ref (u 12), .ref (u 13), .ref (u 14), .ref (u 15), .ref (u 16)])), ((u 3), .inr (3, [.int 0, .int 0, .int 0, .int 0, .int 0, .int 0, .int 0])), ((u 4), .inr (3, [.int 0, .int 0, .int 0, .int 0, .int 0, .int 0, .int 0])), aI G (u 5) 60 (fun _ => 0), aI G (u 6) 60 (fun _ => 0), aI G (u 7) 60 (fun _ => 0), aZ G (u 8) 60 (fun _ => false), aZ G (u 9) 60 (fun _ => false), aI G (u 10) 121 (fun _ => 0), aI G (u 11) 121 (fun _ => 0), aI G (u 12) 121 (fun _ => 0), aI G (u 13) 121 (fun _ => 0), aI G (u 14) 121 (fun _ => 0), aI G (u 15) 121 (fun _ => 0), aI G (u 16) 121 (fun _ => 0), (q8, .inr (5, [.int 30, .int 5000000, .int 0, .int 0, .int 0, .ref (w 0), .ref (w 1), .ref (w 2), .ref (w 3), .ref (w 4), .int 0, .int 0, .int 0, .int 0, .int 0, .int 0, .int 0, .int 0])), aI G (w 0) 60 (fun _ => 0), aI G (w 1) 60 (fun _ => 0), aI G (w 2) 60 (fun _ => 0), aZ G (w 3) 60 (fun _ => false), aZ G (w 4) 60 (fun _ => false), aJ G q17 1 (fun _ => 0)] H _ := hW
  refine lv_astore_n (lv' := [(3, .ref q17), (2, .ref q8), (1, .ref q0), (0, .ref b)]) hx hb dL_law_19 rfl hl (by decide) rfl (fun ls hl => ?_)
  refine lv_iconst (v := 0) hx hb dL_law_20 (by decide) ?_
  refine lv_istore (lv' := [(4, .int 0), (3, .ref q17), (2, .ref q8), (1, .ref q0), (0, .ref b)]) hx hb dL_law_21 hl (by decide) rfl (fun ls hl => ?_)
  exact law_loop (h := fun k => [q0, u 0, u 1, u 2, u 3, u 4, u 5, u 6, u 7, u 8, u 9, u 10, u 11, u 12, u 13, u 14, u 15, u 16, q8, w 0, w 1, w 2, w 3, w 4, q17].getD k 0) X hr hlocks (L + 1) 0 0 25 1502 rfl (Nat.zero_le L) (by omega) rfl rfl 0 0 (30, 5000000, 0) (fun _ => 0) (fun _ => 0) (fun _ => 0) (fun _ => false) (fun _ => false) (fun _ => 0) (fun _ => 0) (fun _ => 0) (fun _ => 0) (fun _ => 0) (fun _ => 0) (fun _ => 0) z7 z7 z7 0 (fun _ => false) (fun _ => 0) inv0 H _ ls (hW.re [0, 1, 2, 3, 4, 5, 6, 7, 8, 9, 10, 11, 12, 13, 14, 15, 16, 17, 18, 19, 20, 21, 22, 23, 24] rfl rfl) (lv_sub hl [4, 3, 2, 1, 0] rfl)
