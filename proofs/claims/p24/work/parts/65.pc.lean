set_option maxHeartbeats 8000000 in
set_option maxRecDepth 100000 in
theorem c_L_isPolicy (l : Launch) (hst : l.stackTraces = false) (G : GG) (h : Nat → Nat) (np n xx : Nat) (q : S3) (mo ki am : N32) (sk dn : Nat → Bool) (y1 y2 y3 y4 y5 y6 y7 : N32) (v : S7) (qf af mf df sf cf lf rf gf tf : N32) (w : S7) (tr : S7) (I : Inv np n q mo ki am sk (dn, y1, y2, y3, y4, y5, y6, y7, v)) (L : LInv np n q mo ki am sk qf af mf df sf cf lf rf gf tf w) (hnp : np ≤ 61) (hxx : xx < 2 ^ 31) : CP l G yL_isPolicy wsL_isPolicy rm_L_isPolicy [.ref (h 0), .ref (h 18), .ref (h 19), .ref (h 22), .ref (h 23), .ref (h 24), .ref (h 25), .int (nI xx)] [cF h (nI np), cP (h 1) q, cB h (nI n), cH h, cS (h 4) v, cS (h 5) tr, aI G (h 6) 60 mo, aI G (h 7) 60 ki, aI G (h 8) 60 am, aZ G (h 9) 60 sk, aZ G (h 10) 60 dn, aI G (h 11) 121 y1, aI G (h 12) 121 y2, aI G (h 13) 121 y3, aI G (h 14) 121 y4, aI G (h 15) 121 y5, aI G (h 16) 121 y6, aI G (h 17) 121 y7, aI G (h 18) 5 (nF (q.1, q.2.1, q.2.2, nI np, nI n)), aI G (h 19) 60 qf, aI G (h 22) 60 df, aI G (h 23) 7 (pF w), aI G (h 24) 64 sf, aI G (h 25) 64 cf] (fun tr => [cF h (nI np), cP (h 1) q, cB h (nI n), cH h, cS (h 4) v, cS (h 5) tr, aI G (h 6) 60 mo, aI G (h 7) 60 ki, aI G (h 8) 60 am, aZ G (h 9) 60 sk, aZ G (h 10) 60 dn, aI G (h 11) 121 y1, aI G (h 12) 121 y2, aI G (h 13) 121 y3, aI G (h 14) 121 y4, aI G (h 15) 121 y5, aI G (h 16) 121 y6, aI G (h 17) 121 y7, aI G (h 18) 5 (nF (q.1, q.2.1, q.2.2, nI np, nI n)), aI G (h 19) 60 qf, aI G (h 22) 60 df, aI G (h 23) 7 (pF w), aI G (h 24) 64 sf, aI G (h 25) 64 cf]) 192 1156 := by
  refine CP_of (own := RL) (by decide +kernel) rfl rfl (Nat.le_of_ble_eq_true rfl) ?_
  intro pP eE sS mM args below meth cC A S hK hr hlk hXE hXZ hW ls hl
  have hag : AG (q.1, q.2.1, q.2.2, nI np, nI n) := by
    obtain ⟨g, s, k, C⟩ := id I.2.2.1
    exact ag_of C (nI np) (nI n)
  refine pA_L_isPolicy hst S hK hXE hXZ I L hnp hxx hag (fun ru hru H locs ls tr hW hl => ?_) _ _ ls tr hW hl
  refine pB_L_isPolicy hst S hK hXE hXZ I L hnp hxx ru (fun H locs ls tr hW hl => ?_) (np + 1) 0 0 0 H locs ls tr (by omega) rfl rfl hW (by rw [nI_0]; exact hl)
  refine pC_L_isPolicy hst S hK hXE hXZ I L hnp hxx ru (fun H locs ls tr hW hl => ?_) H locs ls tr hW hl
  refine pD_L_isPolicy hst S hK hXE hXZ I L hnp hxx ru (fun H locs ls tr hW hl => ?_) n 0 126 756 H locs ls tr (by omega) rfl rfl hW (by rw [nI_0]; exact hl)
  rcases hru with ⟨rfl, hlv⟩ | ⟨rfl, hlv⟩
  · exact pE1_L_isPolicy hst S hK hXE hXZ I L hnp hxx hag hlv hr hlk rfl H locs ls tr hW hl
  · exact pE0_L_isPolicy hst S hK hXE hXZ I L hnp hxx hag hlv hr hlk rfl H locs ls tr hW hl
