/-! ===== the law's endings ===== -/
theorem XQ.j0 {P : Prop} {x : Option (Int32 × (kS × kS))} {f : Option (Int32 × (kS × kS)) → Option (Int32 × (kS × kS))} (hx : P → XQ x) (h : (P ∧ f x = x) ∨ XQ (f x)) : XQ (jn x f) := by
  rcases h with ⟨h1, h2⟩ | h
  · exact XQ.of h2 (hx h1)
  · exact h
section AEn
variable {C M L : kS} {a : kA} {N t v r : Nat} {c : Nat → Nat} {z : Int32}
theorem A_end (hR : RA C M a t c) (hb : LB a) (hL : LR L a) (hv : v < 10000000) (h1 : f_L_low N (z >>> (nI 5 &&& 31)) 10000000 = some (nI v)) (h2 : f_L_low N z 18 = some (nI r)) (hr : r < 18) (hr2 : 7 ≤ r) (hr3 : r < 9) (hN : 3000 ≤ N) : XQ (f_L_acts N (C, L) z) := by
  obtain ⟨C1, M1, e1, hR1⟩ := E_clear (N := N) hR
  have ht := hR.tx.1
  unfold f_L_acts
  rw [i_5, h1, ob]
  dsimp only
  rw [e1, ob, jn_eq]
  dsimp only
  simp only [i_0, i_1, i_2, i_3, i_4, i_5, i_6, i_7, i_8, i_9, i_10, i_11, i_12]
  refine XQ.of (jp1 (x := nI 1) (fun j => if_neg (nI_pos (by omega)))) ?_
  try dsimp only
  rw [h2, ob, jn_eq, jn_eq, jn_eq, jn_eq, sel3n hr (by omega), sel4n hr (by omega), sel2a hr2 hr3]
  have hw := hR.rc.1
  have w2 := hb.2.2.1
  have g7 : L 0 7 = nI (a 2) := hL.1.2.2.2
  have c7 : (nI 7).toNatClampNeg = 7 := q_cl (by decide)
  have c12 : (nI 12).toNatClampNeg = 12 := q_cl (by decide)
  have c13 : (13 : Int32).toNatClampNeg = 13 := by decide
  have g7' : ∀ x : Option (Int32 × (kS × kS)), gIn (nI 7) 8 x = x := fun x => q_gIn (by decide) (by decide)
  have g12' : ∀ x : Option (Int32 × (kS × kS)), gIn (nI 12) 14 x = x := fun x => q_gIn (by decide) (by decide)
  have g13' : ∀ x : Option (Int32 × (kS × kS)), gIn 13 14 x = x := fun x => gIn_t (by unfold vp_in; decide)
  have hm := Nat.mod_lt (v / 64) (show 0 < 2 by decide)
  have hd64 : nI v / nI 64 = nI (v / 64) := q_div (by omega) (by decide) (by decide)
  have h3 : nI (v / 64) - nI (v / 64) / nI 2 * nI 2 = nI (v / 64 % 2) := q_rem (by omega) (by decide) (by decide)
  obtain ⟨n, hn, hn3⟩ : ∃ n, n = 1 + v / 64 % 2 ∧ (1 ≤ n ∧ n ≤ 2) := ⟨_, rfl, by omega⟩
  obtain ⟨d, hd, hdl⟩ := f_letters (N := N) (nI v) (m := n) (by omega) hN
  have hs := enc_small hd (by omega)
  have hs2 : ∀ e, e < a 2 → enc (lc a (626 + 4 * e)) (a (626 + 4 * e)) < 2147483648 := fun e he => Nat.lt_trans (enc_small (ed_ok hw he) (by have := hb.2.2.2.2.2 e he; omega)) (by decide)
  simp only [i_64]
  rw [q_nz (by decide) (by decide), q_nz (by decide) (by decide)]
  simp only [hd64, h3, nI_add]
  rw [← hn, hdl, ob]
  simp only [g7', g12', g13', c7, c12, c13, g7]
  have hl4 : ∀ v, v < a 2 → a (626 + 4 * v) < 4 := fun v hv => by
    have := hb.2.2.2.2.2 v hv
    omega
  obtain ⟨b, hbb⟩ : ∃ b : Bool, (b = true ↔ ∃ e, e < a 2 ∧ enc (lc a (626 + 4 * e)) (a (626 + 4 * e)) = enc d n) := by
    by_cases y : ∃ e, e < a 2 ∧ enc (lc a (626 + 4 * e)) (a (626 + 4 * e)) = enc d n
    · exact ⟨true, fun _ => y, fun _ => rfl⟩
    · exact ⟨false, fun q => (by cases q), fun q => absurd q y⟩
  have hle0 : (nI (a 2) ≤ nI 0) = (a 2 ≤ 0) := q_le (by omega) (by decide)
  have hle1 : (nI (a 2) ≤ nI 1) = (a 2 ≤ 1) := q_le (by omega) (by decide)
  refine XQ.of (jp1 (x := if b = true then nI 1 else nI 0) (fun j => ?_)) ?_
  · simp only [hle0, hle1]
    by_cases y0 : a 2 ≤ 0
    · have hbf : b = false := by
        cases b with
        | false => rfl
        | true => obtain ⟨e, e1, _⟩ := hbb.mp rfl; omega
      subst hbf
      simp only [jn_eq]
      rw [if_pos y0, if_pos (show a 2 ≤ 1 by omega), if_neg (by decide)]
    · have t0 := hL.2.2.2.2 0 (by omega)
      rw [Nat.add_zero, Nat.mul_zero, Nat.add_zero] at t0
      simp only [jn_eq]
      rw [if_neg y0]
      by_cases x0 : enc (lc a 626) (a 626) = enc d n
      · have hbt : b = true := hbb.mpr ⟨0, by omega, x0⟩
        subst hbt
        rw [if_pos (show lg_cmp ((L 2 12).toInt64) (lN (enc d n)) = nI 0 by rw [t0, nI_l (hs2 0 (by omega)), ← i_0, lg_eq0 (hs2 0 (by omega)) (by omega)]; exact x0), if_pos rfl]
      · rw [if_neg (show ¬ lg_cmp ((L 2 12).toInt64) (lN (enc d n)) = nI 0 by rw [t0, nI_l (hs2 0 (by omega)), ← i_0, lg_eq0 (hs2 0 (by omega)) (by omega)]; exact x0)]
        by_cases y1 : a 2 ≤ 1
        · have hbf : b = false := by
            cases b with
            | false => rfl
            | true =>
              obtain ⟨e, e1, e2⟩ := hbb.mp rfl
              rw [show e = 0 by omega] at e2
              exact absurd e2 x0
          subst hbf
          rw [if_pos y1, if_neg (by decide)]
        · have t1 := hL.2.2.2.2 1 (by omega)
          rw [if_neg y1]
          by_cases x1 : enc (lc a (626 + 4 * 1)) (a (626 + 4 * 1)) = enc d n
          · have hbt : b = true := hbb.mpr ⟨1, by omega, x1⟩
            subst hbt
            rw [if_pos (show lg_cmp ((L 2 13).toInt64) (lN (enc d n)) = nI 0 by rw [t1, nI_l (hs2 1 (by omega)), ← i_0, lg_eq0 (hs2 1 (by omega)) (by omega)]; exact x1), if_pos rfl]
          · have hbf : b = false := by
              cases b with
              | false => rfl
              | true =>
                obtain ⟨e, e1, e2⟩ := hbb.mp rfl
                rcases (show e = 0 ∨ e = 1 by omega) with q | q
                · rw [q] at e2
                  exact absurd e2 x0
                · rw [q] at e2
                  exact absurd e2 x1
            subst hbf
            rw [if_neg (show ¬ lg_cmp ((L 2 13).toInt64) (lN (enc d n)) = nI 0 by rw [t1, nI_l (hs2 1 (by omega)), ← i_0, lg_eq0 (hs2 1 (by omega)) (by omega)]; exact x1), if_neg (by decide)]
  try dsimp only
  refine XQ.j0 (P := b = true ∨ a 2 = 2) (fun hp => ?_) ?_
  · by_cases y2 : a 2 = 2
    · obtain ⟨C2, M2, e2, hR2⟩ := E_type (N := N) hR1 (by omega) (x := 65) (by decide) (by decide)
      refine XQ.of (jp2 (x := nI 1) (y := (C2, L)) (fun j => ?_)) (XQ.fin ⟨M2, a, _, _, hR2, hb, hL⟩)
      rw [if_neg (by decide)]
      refine (jp1 (x := (C2, L)) (fun j2 => ?_)).trans ?_
      · rw [if_pos (by rw [y2]), show (65 : Int32) = nI 65 by decide, e2, ob, jn_eq]
        try dsimp only
        rw [if_pos (by decide)]
      · dsimp only
        rw [E_endingF hR2 (Or.inl (by rfl)) hN, ob, jn_eq]
        try dsimp only
        rw [if_pos (by decide)]
    · obtain ⟨w, hw1, hw2⟩ := hbb.mp (hp.resolve_right y2)
      obtain ⟨C2, M2, c', e2, hR2, -, hc'⟩ := f_says (N := N) (L := L) hR1 hd (by omega) (by omega) hN
      rw [Nat.zero_add] at hR2
      simp only [Nat.zero_add] at hc'
      refine XQ.of (jp2 (x := nI 1) (y := (C2, L)) (fun j => ?_)) (XQ.fin ⟨M2, a, n, c', hR2, hb, hL⟩)
      rw [if_neg (by decide)]
      refine (jp1 (x := (C2, L)) (fun j2 => ?_)).trans ?_
      · rw [if_neg (fun q => y2 ((nI_eq (by omega) (by decide)).mp q)), e2, ob, jn_eq]
        try dsimp only
        rw [if_neg (by decide)]
      · dsimp only
        rw [E_endingF hR2 (Or.inr ⟨w, hw1, (eqW_iff hd hc' (ed_ok hw hw1)).mpr hw2⟩) hN, ob, jn_eq]
        try dsimp only
        rw [if_pos (by decide)]
  by_cases hp : b = true ∨ a 2 = 2
  · refine Or.inl ⟨hp, ?_⟩
    cases b with
    | true => rw [if_neg (by decide)]
    | false =>
      rw [if_pos (by decide), if_pos (by rw [hp.resolve_left (by decide)])]
  · have hbf : b = false := by
      cases b with
      | false => rfl
      | true => exact absurd (Or.inl rfl) hp
    have y2 : ¬ a 2 = 2 := fun q => hp (Or.inr q)
    subst hbf
    refine Or.inr ?_
    rw [if_pos (by decide), if_neg (fun q => y2 ((nI_eq (by omega) (by decide)).mp q)), nI_add, q_gIn (by omega) (by decide), gL_n (by omega), jn_eq, q_cl (by omega), lN_i]
    try dsimp only
    have g7L : (up1 L 2 (upd (L 2) (12 + a 2) (nI (enc d n)))) 0 7 = nI (a 2) := by rw [up1_n (by decide)]; exact g7
    rw [g7L, jn_eq, nI_add]
    try dsimp only
    generalize hL2 : up1 L 2 (upd (L 2) (12 + a 2) (nI (enc d n))) = L2 at g7L
    obtain ⟨C2, M2, c', e2, hR2, -, hc'⟩ := f_says (N := N) (L := up1 L2 0 (upd (L2 0) 7 (nI (a 2 + 1)))) hR1 hd (by omega) (by omega) hN
    rw [Nat.zero_add] at hR2
    simp only [Nat.zero_add] at hc'
    obtain ⟨C3, M3, e4, hR3⟩ := E_ending (N := N) hR2 (by omega) (one_ok hd hc' hn3.1 (by omega)) (fun w hw1 => by
      cases q : eqW a 626 4 n c' w with
      | false => rfl
      | true =>
        have := hbb.mpr ⟨w, hw1, (eqW_iff hd hc' (ed_ok hw hw1)).mp q⟩
        cases this) hN
    refine XQ.of (jp2 (x := nI 1) (y := (C3, up1 L2 0 (upd (L2 0) 7 (nI (a 2 + 1))))) (fun j => ?_)) ?_
    · rw [if_neg (by decide), e2, ob, jn_eq]
      try dsimp only
      rw [if_neg (by decide), e4, ob, jn_eq]
      try dsimp only
      rw [if_pos (by rw [up1_s, pk_us, q_sub (by omega), Nat.add_sub_cancel])]
    have k1 : ∀ j, j ≠ 2 → L2 j = L j := fun j hj => by rw [← hL2, up1_n hj]
    obtain ⟨p0, p1, p2, p3, p4⟩ := new_row (a := a) (ci := 2) (base := 626) (wide := 4) (by decide) hn3.1 hd hc' hl4
    have hro : ∀ j, j ≠ 2 → (j < 626 ∨ 642 ≤ j) → pgG 2 626 4 a c' n j = a j := fun j j1 j2 => p1 j j1 (by omega)
    refine XQ.fin ⟨M3, _, _, _, hR3, ⟨by rw [hro 0 (by decide) (by decide)]; exact hb.1, by rw [hro 1 (by decide) (by decide)]; exact hb.2.1, by rw [p0]; omega, fun w' hw' => ?_, fun k hk => ?_, fun e he => ?_⟩, ?_⟩
    · rw [hro 0 (by decide) (by decide)] at hw'
      have := hb.1
      rw [hro _ (by omega) (by omega)]
      exact hb.2.2.2.1 w' hw'
    · rw [hro 1 (by decide) (by decide)] at hk
      have := hb.2.1
      rw [hro _ (by omega) (by omega)]
      exact hb.2.2.2.2.1 k hk
    · rw [p0] at he
      by_cases y : e < a 2
      · rw [(p2 e y).1]
        exact hb.2.2.2.2.2 e y
      · rw [show e = a 2 by omega, p3]
        omega
    refine LR.mk (fun i hi => ?_) ?_ ?_ ?_ (fun k hk => ?_) (fun w' hw' => ?_) (fun k hk => ?_) (fun e he => ?_)
    · rw [up1_s, pk_un (by omega), k1 0 (by decide), hro _ (by omega) (by omega)]
      exact hL.s hi
    · rw [up1_s, pk_un (by omega), k1 0 (by decide), hro 0 (by decide) (by decide)]
      exact hL.1.2.1
    · rw [up1_s, pk_un (by omega), k1 0 (by decide), hro 1 (by decide) (by decide)]
      exact hL.1.2.2.1
    · rw [up1_s, pk_us, p0]
    · rw [up1_n (by decide), k1 1 (by decide), hro _ (by omega) (by omega)]
      exact hL.2.1 k hk
    · rw [hro 0 (by decide) (by decide)] at hw'
      have := hb.1
      have hlen := hb.2.2.2.1 w' hw'
      rw [up1_n (by decide), ← hL2, up1_s, pk_un (by omega), hro _ (by omega) (by omega), hL.2.2.1 w' hw']
      congr 1
      exact enc_congr (fun i hi => by
        unfold lc
        rw [hro _ (by omega) (by omega)])
    · rw [hro 1 (by decide) (by decide)] at hk
      have := hb.2.1
      have hlen := hb.2.2.2.2.1 k hk
      rw [up1_n (by decide), ← hL2, up1_s, pk_un (by omega), hro _ (by omega) (by omega), hL.2.2.2.1 k hk]
      congr 1
      exact enc_congr (fun i hi => by
        unfold lc
        rw [hro _ (by omega) (by omega)])
    · rw [p0] at he
      by_cases y : e < a 2
      · rw [up1_n (by decide), ← hL2, up1_s, pk_un (by omega), (p2 e y).2]
        exact hL.2.2.2.2 e y
      · have ek : e = a 2 := by omega
        subst ek
        rw [up1_n (by decide), ← hL2, up1_s, pk_us, p4]
end AEn
