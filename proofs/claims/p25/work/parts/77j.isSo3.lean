/-! ===== a word more: the step ===== -/
section IS3
variable {C L : kS} {a : kA} {N w : Nat} {y : Int32 × Int32 × Int32 × Int32 × (kS × kS)}
theorem f_128s (hR : RC C a) (hb : LB a) (hL : LR L a) (hwd : w < a 0) (h : SI a C L w y) (hN : 3000 ≤ N) : ∃ y', SI a C L (w + 1) y' ∧ ∀ (kont : Int32 → Int32 → Int32 → Int32 → (kS × kS) → Option Int32) (m : Nat), lp_L_isSo_128 N kont (m + 1) y.1 y.2.1 y.2.2.1 y.2.2.2.1 (nI w) y.2.2.2.2 = lp_L_isSo_128 N kont m y'.1 y'.2.1 y'.2.2.1 y'.2.2.2.1 (nI (w + 1)) y'.2.2.2.2 := by
  have hw := hR.1
  have hD := hR.2.2.2.2.2
  have hst := hw.2.2.2.2.1
  have w8 := hb.1
  have hs : sA a w ≤ 148 := sh_le hw (m := a 3) hst hwd
  have hge := sh_ge hw hb hwd
  have hwdb : wd a (34 + 13 * w) ≤ 148 := Nat.le_trans hge hs
  obtain ⟨x65, x66, x67, x68, C', K⟩ := y
  obtain ⟨s1, s2, s3, s4, s5, s6, ⟨t0, t1, t2, t3, t4, t5⟩, s8⟩ := h
  dsimp only at s1 s2 s3 s4 s5 s6 t0 t1 t2 t3 t4 t5 s8
  subst s1
  subst s2
  subst s3
  subst s4
  subst s5
  have hK : LR K a := hL.cg (s6 0 (by decide) (by decide)) (s6 1 (by decide) (by decide)) (s6 2 (by decide) (by decide))
  obtain ⟨⟨g0, g1, g2, g3, g4⟩, g5, g6, g7⟩ := hK.1
  -- the values behind the look at the line
  generalize hX85 : (if nbB a w = true then nI (LN a w) else nI (LN a w) - nI 1) = X85
  generalize hX86 : (if nbB a w = true then -(nI (a 6)) else nI (PLc a w)) = X86
  generalize hX87 : (if nbB a w = true then nI w else nI (FSt a w)) = X87
  generalize hXK : (if nbB a w = true then up1 K 4 (upd (K 4) 4 (nI 0)) else K) = K1
  have e85 : X85 = nI (lno (sA a) (a 6) (a 7) w) := by
    rw [← hX85]
    cases z : nbB a w with
    | true => rw [if_pos rfl, lno_2 (nbB_t z)]
    | false =>
      have hn := nbB_f z
      have hw0 : 0 < w := by
        rcases Nat.eq_zero_or_pos w with e | e
        · exact absurd (Or.inl e) hn
        · exact e
      rw [if_neg (by decide), lno_1 hw0 hn, q_sub (LN_1 hw0)]
  have e86 : X86 + nI (a 6) = nI (plc (sA a) (a 6) (a 7) w) := by
    rw [← hX86]
    cases z : nbB a w with
    | true => rw [if_pos rfl, plc_y (nbB_t z), ng_add]
    | false =>
      have hn := nbB_f z
      have hw0 : 0 < w := by
        rcases Nat.eq_zero_or_pos w with e | e
        · exact absurd (Or.inl e) hn
        · exact e
      rw [if_neg (by decide), plc_n hn, nI_add, (PL_LP hR hw0 (by omega)).1]
  have e87 : X87 = nI (FSt a (w + 1)) := by
    rw [← hX87]
    unfold FSt
    rw [if_neg (Nat.succ_ne_zero w)]
    cases z : nbB a w with
    | true =>
      have hn := nbB_t z
      rw [if_pos rfl, (LN_y hn).1, Nat.add_sub_cancel, (nb_fs hn hwd).1]
    | false =>
      have hn := nbB_f z
      have hw0 : ¬ w = 0 := fun e => hn (Or.inl e)
      rw [if_neg (by decide), if_neg hw0, (LN_n hn).1]
  have eK : (∀ j, j ≠ 4 → K1 j = K j) ∧ (∀ i, i ≠ 4 → K1 4 i = K 4 i) ∧ K1 4 4 = nI (lsum a (a 3) (a 4) (LN a (w + 1) - 1) 4 w) := by
    rw [← hXK]
    cases z : nbB a w with
    | true =>
      have hn := nbB_t z
      refine ⟨fun j hj => by rw [if_pos rfl, up1_n hj], fun i hi => by rw [if_pos rfl, up1_s, pk_un hi], ?_⟩
      rw [if_pos rfl, up1_s, pk_us, (LN_y hn).1, Nat.add_sub_cancel, lsum_lo hD (nb_fs hn hwd).2 w (by rw [(nb_fs hn hwd).1]; exact Nat.le_refl _)]
    | false =>
      have hn := nbB_f z
      have hw0 : ¬ w = 0 := fun e => hn (Or.inl e)
      refine ⟨fun j hj => by rw [if_neg (by decide)], fun i hi => by rw [if_neg (by decide)], ?_⟩
      rw [if_neg (by decide), t4, (LN_n hn).1]
      unfold B4
      rw [if_neg hw0]
  have hK1 : LR K1 a := hK.cg (eK.1 0 (by decide)) (eK.1 1 (by decide)) (eK.1 2 (by decide))
  have g3' : K1 0 3 = nI (a 6) := hK1.1.1.2.2.2.1
  have hPL : (nI (plc (sA a) (a 6) (a 7) w) + nI (sA a w)) = nI (PLc a (w + 1)) := by
    rw [nI_add]
    unfold PLc
    rw [if_neg (Nat.succ_ne_zero w)]
    by_cases n : nb a w
    · rw [plc_y n, (LN_y n).2, Nat.zero_add, Nat.add_sub_cancel]
    · rw [plc_n n, (LN_n n).2, ← Nat.add_assoc, Nat.add_sub_cancel]
  have e2 : (K 2 w).toInt64 = lN (enc (lc a (34 + 13 * w)) (a (34 + 13 * w))) := by rw [hK.2.2.1 w hwd, nI_l (Nat.lt_trans (enc_small (pg_ok hw hwd) (hb.2.2.2.1 w hwd)) (by decide))]
  generalize hb1 : (if hid a w = true then nI 1 else nI 0) = b1
  generalize ht1 : (if (hid a w && decide (pop (nuM a (a 3) (a 4) (sA a w)) = 1)) = true then nI 1 else nI 0) = b2
  generalize ht3 : (if hid a w = true then nI (sA a w) - nI (wd a (34 + 13 * w)) else nI 0) = b3
  generalize ht5 : (if hid a w = true then nI (sA a w) else -nI 1) = b5
  generalize hfr : (if frs a (a 3) (a 4) w = true then nI 1 else nI 0) = b6
  generalize hK6 : ad4 (ad4 (ad4 (ad4 (ad4 K1 0 b1) 1 b2) 2 (nI (sA a w))) 3 b3) 4 b1 = K6
  have k6o : ∀ j, j ≠ 4 → K6 j = K j := fun j hj => by rw [← hK6, ad4_o hj, ad4_o hj, ad4_o hj, ad4_o hj, ad4_o hj, eK.1 j hj]
  have hK7 : LR (ad4 (up1 K6 5 (upd (K6 5) w b5)) 5 b6) a := hK.cg (by rw [ad4_o (by decide), up1_n (by decide), k6o 0 (by decide)]) (by rw [ad4_o (by decide), up1_n (by decide), k6o 1 (by decide)]) (by rw [ad4_o (by decide), up1_n (by decide), k6o 2 (by decide)])
  refine ⟨(X85, nI (PLc a (w + 1)), X87, nI 1, (C', ad4 (up1 K6 5 (upd (K6 5) w b5)) 5 b6)), ⟨?_, rfl, e87, rfl, rfl, fun j h4 h5 => ?_, ⟨?_, ?_, ?_, ?_, ?_, ?_⟩, fun k hk => ?_⟩, ?_⟩
  · dsimp only
    rw [e85, lno_e, q_sub (LN_1 (Nat.succ_pos w))]
  · dsimp only
    rw [ad4_o h4, up1_n h5, k6o j h4]
    exact s6 j h4 h5
  · dsimp only
    rw [ad4_n (by decide), up1_n (by decide), ← hK6, ad4_n (by decide), ad4_n (by decide), ad4_n (by decide), ad4_n (by decide), ad4_s, eK.2.1 0 (by decide), t0, ← hb1, sumN]
    unfold tm
    cases z : hid a w with
    | true => simp only [↓reduceIte, nI_add, Nat.reduceEqDiff]
    | false => simp only [Bool.false_eq_true, ↓reduceIte, nI_add, Nat.reduceEqDiff]
  · dsimp only
    rw [ad4_n (by decide), up1_n (by decide), ← hK6, ad4_n (by decide), ad4_n (by decide), ad4_n (by decide), ad4_s, ad4_n (by decide), eK.2.1 1 (by decide), t1, ← ht1, sumN]
    unfold tm
    cases z : hid a w with
    | true =>
      simp only [↓reduceIte, nI_add, Nat.reduceEqDiff, Bool.true_and, decide_eq_true_eq]
      split <;> rw [nI_add]
    | false => simp only [Bool.false_eq_true, ↓reduceIte, nI_add, Nat.reduceEqDiff, Bool.false_and]
  · dsimp only
    rw [ad4_n (by decide), up1_n (by decide), ← hK6, ad4_n (by decide), ad4_n (by decide), ad4_s, ad4_n (by decide), ad4_n (by decide), eK.2.1 2 (by decide), t2, sumN, nI_add]
    unfold tm
    rw [if_pos rfl]
  · dsimp only
    rw [ad4_n (by decide), up1_n (by decide), ← hK6, ad4_n (by decide), ad4_s, ad4_n (by decide), ad4_n (by decide), ad4_n (by decide), eK.2.1 3 (by decide), t3, ← ht3, sumN]
    unfold tm
    cases z : hid a w with
    | true =>
      simp only [↓reduceIte, Nat.reduceEqDiff]
      rw [q_sub hge, nI_add, hid_wd hw hb hwd z]
    | false => simp only [Bool.false_eq_true, ↓reduceIte, nI_add, Nat.reduceEqDiff]
  · dsimp only
    rw [ad4_n (by decide), up1_n (by decide), ← hK6, ad4_s, ad4_n (by decide), ad4_n (by decide), ad4_n (by decide), ad4_n (by decide), eK.2.2, ← hb1]
    unfold B4
    rw [if_neg (Nat.succ_ne_zero w), lsum, if_pos isL_w]
    cases z : hid a w with
    | true => simp only [↓reduceIte, nI_add, Nat.reduceEqDiff]
    | false => simp only [Bool.false_eq_true, ↓reduceIte, nI_add, Nat.reduceEqDiff]
  · dsimp only
    rw [ad4_s, up1_n (by decide), ← hK6, ad4_n (by decide), ad4_n (by decide), ad4_n (by decide), ad4_n (by decide), ad4_n (by decide), eK.2.1 5 (by decide), t5, ← hfr, sumN]
    unfold tm
    cases z : hid a w with
    | true =>
      simp only [↓reduceIte, Nat.reduceEqDiff]
      split <;> rw [nI_add]
    | false =>
      have e : frs a (a 3) (a 4) w = false := by unfold frs; rw [z, Bool.false_and]
      simp only [Bool.false_eq_true, ↓reduceIte, nI_add, Nat.reduceEqDiff, e]
  · dsimp only
    rw [ad4_o (by decide), up1_s]
    by_cases e : k = w
    · rw [e, pk_us, ← ht5, i_m1]
    · rw [pk_un e, k6o 5 (by decide)]
      exact s8 k (by omega)
  · intro kont m
    dsimp only
    have c0 : (nI 0).toNatClampNeg = 0 := q_cl (by decide)
    have c1 : (nI 1).toNatClampNeg = 1 := q_cl (by decide)
    have c2 : (2 : Int32).toNatClampNeg = 2 := by decide
    have c3 : (nI 3).toNatClampNeg = 3 := q_cl (by decide)
    have c4 : (nI 4).toNatClampNeg = 4 := q_cl (by decide)
    have c5 : (nI 5).toNatClampNeg = 5 := q_cl (by decide)
    have cw : (nI w).toNatClampNeg = w := q_cl (by omega)
    have gi : ∀ {i n : Nat} (x : Option Int32), i < n → n ≤ 14 → gIn (nI i) n x = x := fun x h1 h2 => q_gIn h1 (by omega)
    have gi2 : ∀ x : Option Int32, gIn 2 6 x = x := fun x => gIn_t (by unfold vp_in; decide)
    rw [lp_L_isSo_128]
    try dsimp only
    rw [i_0, i_1, i_3, i_4, i_5, c0, c1, c2, c3, c4, c5, cw]
    rw [gi _ (by decide) (by decide), if_neg (show ¬ K 0 5 ≤ nI w from fun q => by rw [g5] at q; have := (nI_leI (by omega) (by omega)).mp q; omega), if_neg (by rw [q_nT]; exact not_false), f_formOf hw hb hK hwd hN, ob, gi _ (by omega) (by decide), f_wwid hw hb hK hwd hN, ob, gi _ (by decide) (by decide), gi _ (by decide) (by decide), g0, g1, f_shown hw hb hK hwd hN, ob]
    refine (jp1 (x := if hid a w = true then nI (nuM a (a 3) (a 4) (sA a w)) else nI 0) (fun j => ?_)).trans ?_
    · cases z : hid a w with
      | true => rw [if_pos (by rw [fm_ge hb]; exact z), gi _ (by decide) (by decide), gi _ (by decide) (by decide), f_under hw hb hK (v := sA a w) (by omega) hN, ob]; rfl
      | false => rw [if_neg (by rw [fm_ge hb, z]; decide)]; rfl
    refine (jp5 (x := X85) (y := X86) (z := X87) (u := nI 1) (v := (C', K1)) (fun j => ?_)).trans ?_
    · simp only [g3, g4]
      rw [← hX85, ← hX86, ← hX87, ← hXK]
      exact f_lineQ hR hb hwd t4 hN j
    try dsimp only
    rw [gi _ (by decide) (by decide)]
    refine (jp1 (x := nI 1) (fun j => ?_)).trans ?_
    · simp only [g3']
      exact f_wordsQ hR hb hK1 hwd e85 e86 hN j
    try dsimp only
    rw [g3', e86, hPL, jn_eq]
    have hsel : ∀ (x y : Int32) (j : Int32 → Option Int32), (if nI 0 ≤ fmI a w then j x else j y) = j (if hid a w = true then x else y) := fun x y j => by
      cases z : hid a w with
      | true => rw [if_pos (by rw [fm_ge hb]; exact z)]; rfl
      | false => rw [if_neg (by rw [fm_ge hb, z]; decide)]; rfl
    have hsel2 : ∀ (x y : Int32) (j : Int32 → Option Int32), (if fmI a w < nI 0 then j x else j y) = j (if hid a w = true then y else x) := fun x y j => by
      cases z : hid a w with
      | true => rw [if_neg (by rw [fm_lt hb, z]; decide)]; rfl
      | false => rw [if_pos (by rw [fm_lt hb, z]; decide)]; rfl
    rw [gi _ (by decide) (by decide)]
    refine (jp1 (hsel _ _)).trans ?_
    rw [hb1]
    try dsimp only
    rw [gi _ (by decide) (by decide), ad4_r, jn_eq]
    try dsimp only
    rw [gi _ (by decide) (by decide)]
    refine (jp1 (x := b2) (fun j => ?_)).trans ?_
    · rw [jn_eq, ← ht1]
      cases z : hid a w with
      | true =>
        have hpb := pop_le (nuM a (a 3) (a 4) (sA a w))
        simp only [↓reduceIte]
        rw [if_neg (by rw [fm_lt hb, z]; decide), f_ones (nuM_256 hw) hN, ob]
        simp only [q_eq (show pop (nuM a (a 3) (a 4) (sA a w)) < 2147483648 by omega) (show 1 < 2147483648 by decide), Bool.true_and, decide_eq_true_eq]
        split <;> rfl
      | false =>
        rw [if_pos (by rw [fm_lt hb, z]; decide)]
        simp only [Bool.false_and, Bool.false_eq_true, ↓reduceIte]
    try dsimp only
    rw [gi _ (by decide) (by decide), ad4_r, jn_eq]
    try dsimp only
    rw [gi2, gi2, ad4_r, jn_eq]
    try dsimp only
    rw [gi _ (by decide) (by decide)]
    refine (jp1 (hsel _ _)).trans ?_
    rw [ht3]
    try dsimp only
    rw [gi _ (by decide) (by decide), ad4_r, jn_eq]
    try dsimp only
    rw [gi _ (by decide) (by decide)]
    refine (jp1 (hsel _ _)).trans ?_
    rw [hb1]
    try dsimp only
    rw [gi _ (by decide) (by decide), ad4_r, jn_eq, hK6]
    try dsimp only
    refine (jp1 (hsel2 _ _)).trans ?_
    rw [hb1]
    try dsimp only
    refine (jp1 (hsel _ _)).trans ?_
    rw [ht5]
    try dsimp only
    rw [q_gIn (by omega) (by decide), jn_eq]
    try dsimp only
    rw [← hb1]
    refine (jp1 (fun j => f_689 (C := C') (L := up1 K6 5 (upd (K6 5) w b5)) hw hwd w8 (fun k hk => by
      rw [up1_s, pk_un (by omega), k6o 5 (by decide)]
      exact s8 k hk) j hN)).trans ?_
    rw [hfr]
    try dsimp only
    rw [gi _ (by decide) (by decide)]
    refine (jp1 (x := b6) (fun j => ?_)).trans ?_
    · rw [← hfr]
      cases z : frs a (a 3) (a 4) w with
      | true => simp only [↓reduceIte, q_nT]
      | false => simp only [Bool.false_eq_true, ↓reduceIte]
    try dsimp only
    rw [gi _ (by decide) (by decide), ad4_r, jn_eq]
    try dsimp only
    refine (jp1 (fun j => f_744 (C := C') hR hb hK7 hwd j hN)).trans ?_
    try dsimp only
    have hpl := hb.2.2.2.1 w hwd
    refine (jp1 (x := nI 1) (fun j => ?_)).trans ?_
    · rw [jn_eq, if_neg (by rw [q_nT]; exact not_false), show (12 : Int32) = nI 12 by decide, V_letter hR hwd (by decide) hN, ob]
      have h12 : ¬ 12 < a (34 + 13 * w) := by omega
      simp only [h12, ↓reduceIte]
      refine (jp1 (x := if hid a w = true then -12 else -14) (fun j2 => ?_)).trans ?_
      · rw [← show (-12 : Int32) = -nI 12 by decide]
        exact hsel _ _ j2
      · rw [if_pos rfl, jn_eq]
        cases z : hid a w with
        | true =>
          have h1 : ¬ (nI (sA a w) < nI (wd a (34 + 13 * w))) := fun q => by
            have := (nI_ltI (by omega) (by omega)).mp q
            omega
          rw [if_neg (by rw [fm_lt hb, z]; decide), if_neg h1]
        | false => rw [if_pos (by rw [fm_lt hb, z]; decide)]
    try dsimp only
    rw [nI_add]
end IS3
