/-! ===== the law's look says true ===== -/
section IS4
variable {C L : kS} {a : kA} {N : Nat}
theorem f_85 (hR : RC C a) {K : kS} (hK : LR K a) (kont : Int32 → Option Int32) (hN : 3000 ≤ N) : lp_L_isSo_85 N (C, K) kont N (nI 1) (nI 0) = kont (nI 1) := by
  obtain ⟨⟨g0, g1, g2, g3, g4⟩, g5, g6, g7⟩ := hK.1
  have hg : ∀ k, k < 5 → K 0 k = nI (a (3 + k)) := fun k hk => by
    obtain rfl | rfl | rfl | rfl | rfl : k = 0 ∨ k = 1 ∨ k = 2 ∨ k = 3 ∨ k = 4 := by omega
    · exact g0
    · exact g1
    · exact g2
    · exact g3
    · exact g4
  obtain ⟨n, e⟩ := lpF (fun n i (x : Int32) => lp_L_isSo_85 N (C, K) kont n x (nI i)) (fun _ => nI 1) 5 (fun n i hi => by
    show lp_L_isSo_85 N (C, K) kont (n + 1) (nI 1) (nI i) = lp_L_isSo_85 N (C, K) kont n (nI 1) (nI (i + 1))
    rw [lp_L_isSo_85]
    dsimp only
    rw [i_0, i_1, i_5, i_6, nI_add, nI_add, if_neg (by intro q; have := (nI_leI (by omega) (by omega)).mp q; omega)]
    refine (jp1 (x := nI 1) (fun j => ?_)).trans rfl
    rw [jn_eq, if_neg (by rw [q_nT]; exact not_false), V_cs hR hi, ob, q_gIn (by omega) (by decide), if_pos (show nI (a (3 + i)) = K 0 (nI i).toNatClampNeg by rw [q_cl (by omega), hg i hi])]) (N := N) 0 (Nat.zero_le _) (by omega)
  refine e.trans ?_
  show lp_L_isSo_85 N (C, K) kont (n + 1) (nI 1) (nI 5) = _
  rw [lp_L_isSo_85, if_pos (by decide)]
theorem f_isSo (hR : RC C a) (hb : LB a) (hL : LR L a) (hN : 3000 ≤ N) : f_L_isSo N (C, L) = some (nI 1) := by
  have hw := hR.1
  have hD := hR.2.2.2.2.2
  have hst := hw.2.2.2.2.1
  have w8 := hb.1
  have w1 := hb.2.1
  have w2 := hb.2.2.1
  have hK0 : LR (up1 (up1 L 4 (fun _ => 0)) 5 (fun _ => 0)) a := hL.cg (by rw [up1_n (by decide), up1_n (by decide)]) (by rw [up1_n (by decide), up1_n (by decide)]) (by rw [up1_n (by decide), up1_n (by decide)])
  have hSI : SI a C L 0 (nI 0 - nI 1, nI 0, nI 0, nI 1, (C, up1 (up1 L 4 (fun _ => 0)) 5 (fun _ => 0))) := by
    refine ⟨rfl, rfl, rfl, rfl, rfl, fun j h4 h5 => ?_, ⟨?_, ?_, ?_, ?_, ?_, ?_⟩, fun k hk => absurd hk (Nat.not_lt_zero k)⟩
    · dsimp only
      rw [up1_n h5, up1_n h4]
    all_goals
      dsimp only
      rw [up1_n (by decide), up1_s]
      exact i_0
  unfold f_L_isSo
  rw [jn_eq, jn_eq]
  dsimp only
  generalize hKe : up1 (up1 L 4 (fun _ => 0)) 5 (fun _ => 0) = K at hK0 hSI
  obtain ⟨⟨g0, g1, g2, g3, g4⟩, g5, g6, g7⟩ := hK0.1
  have c0 : (nI 0).toNatClampNeg = 0 := q_cl (by decide)
  have c1 : (nI 1).toNatClampNeg = 1 := q_cl (by decide)
  have c3 : (nI 3).toNatClampNeg = 3 := q_cl (by decide)
  have c5 : (nI 5).toNatClampNeg = 5 := q_cl (by decide)
  have c2 : (2 : Int32).toNatClampNeg = 2 := by decide
  have gi : ∀ {i n : Nat} (x : Option Int32), i < n → n ≤ 14 → gIn (nI i) n x = x := fun x h1 h2 => q_gIn h1 (by omega)
  have gi2 : ∀ x : Option Int32, gIn 2 6 x = x := fun x => gIn_t (by unfold vp_in; decide)
  have gi6 : ∀ x : Option Int32, gIn 6 8 x = x := fun x => gIn_t (by unfold vp_in; decide)
  have gi7 : ∀ x : Option Int32, gIn 7 8 x = x := fun x => gIn_t (by unfold vp_in; decide)
  have c6 : (6 : Int32).toNatClampNeg = 6 := by decide
  have c7 : (7 : Int32).toNatClampNeg = 7 := by decide
  have m11 : (-11 : Int32) = -(11 : Int32) := by decide
  have v0 := V_c0 (N := N) hR
  have v1 := V_c1 (N := N) hR hN
  have v2 := V_c2 (N := N) hR
  have v3 := V_c3 (N := N) hR
  have v4 := V_c4 (N := N) hR
  have v5 := V_c5 (N := N) hR
  have v11 := V_c11 (N := N) hR hN
  have v12 := V_c12 (N := N) hR hN
  have v13 := V_c13 (N := N) hR hN
  have v14 := V_c14 (N := N) hR hN
  rw [i_0] at v0
  rw [i_1] at v1
  rw [i_3] at v3
  rw [i_5] at v5
  rw [i_0, i_1, i_3, i_5, c0, c1, c2, c3, c5, c6, c7]
  rw [v0, ob, gi _ (by decide) (by decide)]
  refine (jp1 (x := nI 1) (fun j => ?_)).trans ?_
  · rw [jn_eq, if_pos g5.symm, v3, ob, gi6, if_pos g6.symm, v4, ob, gi7, if_pos g7.symm, v5, ob, gi6, gi7, if_pos (by rw [g6, g7, nI_add, pk_mul]; rfl)]
  try dsimp only
  refine (jp1 (fun j => f_85 hR hK0 j hN)).trans ?_
  try dsimp only
  -- the page, word by word
  obtain ⟨y', n, hS, e⟩ := lpN (fun n w (y : Int32 × Int32 × Int32 × Int32 × (kS × kS)) => fun kont : Int32 → Int32 → Int32 → Int32 → (kS × kS) → Option Int32 => lp_L_isSo_128 N kont n y.1 y.2.1 y.2.2.1 y.2.2.2.1 (nI w) y.2.2.2.2) (fun w y => SI a C L w y) (a 0) (fun n w y hwd hI => by
    obtain ⟨y2, h1, h2⟩ := f_128s (N := N) hR hb hL hwd hI hN
    exact ⟨y2, h1, funext (fun kont => h2 kont n)⟩) (N := 9) 0 _ (Nat.zero_le _) (by omega) hSI
  obtain ⟨x10, x11, x12, x13, C', K'⟩ := y'
  obtain ⟨s1, s2, s3, s4, s5, s6, ⟨t0, t1, t2, t3, t4, t5⟩, s8⟩ := hS
  dsimp only at s1 s2 s3 s4 s5 s6 t0 t1 t2 t3 t4 t5 s8
  subst s1
  subst s2
  subst s3
  subst s4
  subst s5
  have hK' : LR K' a := hL.cg (s6 0 (by decide) (by decide)) (s6 1 (by decide) (by decide)) (s6 2 (by decide) (by decide))
  have g5' : K' 0 5 = nI (a 0) := hK'.1.2.1
  refine (jp5 (x := nI (LN a (a 0)) - nI 1) (y := nI (PLc a (a 0))) (z := nI (FSt a (a 0))) (u := nI 1) (v := (C', K')) (fun j => ?_)).trans ?_
  · have e2 := congrFun e j
    dsimp only at e2
    rw [show (-nI 1 : Int32) = nI 0 - nI 1 by decide]
    refine e2.trans ?_
    rw [lp_L_isSo_128]
    dsimp only
    rw [i_5, q_gIn (by decide) (by decide), if_pos (show K' 0 (nI 5).toNatClampNeg ≤ nI (a 0) by rw [c5, g5']; exact Int32.le_refl _)]
  try dsimp only
  refine (jp1 (x := nI 1) (fun j => ?_)).trans ?_
  · rw [jn_eq, if_neg (by rw [q_nT]; exact not_false)]
    refine jp0 (fun j2 => ?_)
    rcases Nat.eq_zero_or_pos (a 0) with z | z
    · rw [if_pos (by rw [z]; exact m1_neg)]
    · obtain ⟨l1, l2, l3, l4, l5, l6⟩ := line_end hD z (Nat.le_refl _) (Or.inl rfl)
      have h1 := LN_1 (a := a) z
      have hln := lnN_le hw (m := a 3) hst
      have hLN := LN_le (a := a) (w := a 0) (Nat.le_refl _)
      have hfs : FSt a (a 0) = fsL a (a 3) (a 4) (LN a (a 0) - 1) := if_neg (by omega)
      have u1 := V_line (N := N) hR l1 (j := 1) (by decide) hN
      have u2 := V_line (N := N) hR l1 (j := 2) (by decide) hN
      have u5 := V_again (N := N) hR l1
      simp (config := { decide := true }) only [↓reduceIte] at u1 u2
      rw [l2] at u1
      rw [l4] at u2
      rw [l2] at u5
      have l6' : plc (sh a (a 3) (a 4)) (a 6) (a 7) (a 0 - 1) + sh a (a 3) (a 4) (a 0 - 1) = PLc a (a 0) := l6
      rw [l6'] at u5
      rw [if_neg (m1_pos h1 (by omega)), q_sub h1, u1, ob, q_gIn (by decide) (by decide), if_pos (by rw [g5', hfs, q_sub l3]), i_2, u2, ob, if_pos rfl, u5, ob, if_pos rfl]
  try dsimp only
  refine (jp1 (x := nI 1) (fun j => ?_)).trans ?_
  · have x0 := V_wordX (N := N) hR (w := a 0) (by omega) (Nat.le_refl _) (nI 0)
    have hln := lnN_le hw (m := a 3) hst
    have x1 := V_lineX (N := N) hR (k := LN a (a 0)) (by have := LN_le (a := a) (w := a 0) (Nat.le_refl _); omega) (Nat.le_refl _) (nI 0)
    rw [if_neg (by rw [q_nT]; exact not_false), v1, ob, gi _ (by decide) (by decide), if_pos t0.symm, v2, ob, m1_add, if_pos (show nI (lnN a (a 3) (a 4)) = nI (LN a (a 0)) from rfl), v11, ob, gi _ (by decide) (by decide), if_pos t1.symm, v12, ob, gi2, if_pos t2.symm, v13, ob, gi _ (by decide) (by decide), if_pos t3.symm, v14, ob, gi _ (by decide) (by decide), if_pos t5.symm, gi _ (by decide) (by decide), g5', x0, ob, if_pos rfl, x1, ob, if_pos rfl]
  try dsimp only
  decide
end IS4
