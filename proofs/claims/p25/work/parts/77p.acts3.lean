/-! ===== a word added: its row, and the law's names ===== -/
theorem isl_97 {x : Nat} (h : x < 26) : isl (97 + x) = true := decide_eq_true ⟨by omega, by omega⟩
theorem gL_n {α : Type} {x : Nat} (hx : x < 2147483648) (y : Option α) : gL (lN x) y = y := gL_t (by rw [lN_i, nI_l hx])
section WN
variable {a : kA} {ci base wide n ml : Nat} {c d : Nat → Nat}
theorem one_ok (hd : ∀ i, i < n → d i < 26) (hc : ∀ i, i < n → c i = 97 + d i) (h1 : 1 ≤ n) (h2 : n ≤ ml) : oneW c n ml = true := by
  unfold oneW
  rw [Bool.and_eq_true]
  exact ⟨decide_eq_true ⟨h1, h2⟩, (allB_iff _ _).mpr (fun i hi => by rw [hc i hi]; exact isl_97 (hd i hi))⟩
theorem eqW_iff {w : Nat} (hd : ∀ i, i < n → d i < 26) (hc : ∀ i, i < n → c i = 97 + d i) (hl : ∀ i, i < a (base + wide * w) → lc a (base + wide * w) i < 26) : eqW a base wide n c w = true ↔ enc (lc a (base + wide * w)) (a (base + wide * w)) = enc d n := by
  unfold eqW
  rw [Bool.and_eq_true, decide_eq_true_iff, allB_iff]
  constructor
  · rintro ⟨h1, h2⟩
    rw [h1]
    refine enc_congr (fun i hi => ?_)
    have := of_decide_eq_true (h2 i hi)
    unfold lc
    rw [this, hc i hi]
    omega
  · intro h
    obtain ⟨h1, h2⟩ := enc_inj hl hd h
    refine ⟨h1, fun i hi => decide_eq_true ?_⟩
    have := h2 i (by omega)
    unfold lc at this
    rw [this, hc i hi]
    omega
theorem new_row (hci : ci < base) (h1 : 1 ≤ n) (hd : ∀ i, i < n → d i < 26) (hc : ∀ i, i < n → c i = 97 + d i) (hl : ∀ v, v < a ci → a (base + wide * v) < wide) : pgG ci base wide a c n ci = a ci + 1 ∧ (∀ j, j ≠ ci → (j < base + wide * a ci ∨ base + wide * a ci + n < j) → pgG ci base wide a c n j = a j) ∧ (∀ v, v < a ci → pgG ci base wide a c n (base + wide * v) = a (base + wide * v) ∧ enc (lc (pgG ci base wide a c n) (base + wide * v)) (pgG ci base wide a c n (base + wide * v)) = enc (lc a (base + wide * v)) (a (base + wide * v))) ∧ pgG ci base wide a c n (base + wide * a ci) = n ∧ enc (lc (pgG ci base wide a c n) (base + wide * a ci)) (pgG ci base wide a c n (base + wide * a ci)) = enc d n := by
  have hall := pgG_all (a := a) (wide := wide) (c := c) (t := n) hci (fun i hi => by rw [hc i hi]; exact isl_97 (hd i hi)) (n - 1) (by omega)
  rw [show n - 1 + 1 = n by omega] at hall
  have g0 : pgG ci base wide a c n ci = a ci + 1 := by rw [hall, if_pos rfl]
  have g1 : ∀ j, j ≠ ci → (j < base + wide * a ci ∨ base + wide * a ci + n < j) → pgG ci base wide a c n j = a j := fun j j1 j2 => by rw [hall, if_neg j1, if_neg (by omega), if_neg (by omega)]
  have g2 : pgG ci base wide a c n (base + wide * a ci) = n := by rw [hall, if_neg (by omega), if_pos rfl]
  refine ⟨g0, g1, fun v hv => ?_, g2, ?_⟩
  · have hm := wm (wide := wide) hv
    have hv2 := hl v hv
    have h0 := g1 (base + wide * v) (by omega) (Or.inl (by omega))
    rw [h0]
    refine ⟨rfl, enc_congr (fun i hi => ?_)⟩
    unfold lc
    exact g1 _ (by omega) (Or.inl (by omega))
  · rw [g2]
    refine enc_congr (fun i hi => ?_)
    unfold lc
    rw [hall, if_neg (by omega), if_neg (by omega), if_pos (by omega), show base + wide * a ci + 1 + i - (base + wide * a ci + 1) = i by omega, hc i hi]
    omega
end WN
section AN
variable {C M L : kS} {a : kA} {N t v r : Nat} {c : Nat → Nat} {z : Int32}
theorem f_282 (hw : WF a) (hb : LB a) (hL : LR L a) {e : Nat} (he : e < 33554432) (kont : Int32 → Option (Int32 × (kS × kS))) (hN : 3000 ≤ N) : ∃ b : Bool, lp_L_acts_282 N (C, L) (lN e) kont N (nI 0) (nI 0) = kont (if b = true then nI 1 else nI 0) ∧ (b = true ↔ ∃ w, w < a 1 ∧ enc (lc a (554 + 9 * w)) (a (554 + 9 * w)) = e) := by
  have w1 := hb.2.1
  have g6 : L 0 6 = nI (a 1) := hL.1.2.2.1
  have c6 : (nI 6).toNatClampNeg = 6 := q_cl (by decide)
  have g6' : ∀ x : Option (Int32 × (kS × kS)), gIn (nI 6) 8 x = x := fun x => q_gIn (by decide) (by decide)
  obtain ⟨x', n, ⟨b, h1, h2⟩, e1⟩ := lpN (fun n i (x : Int32) => lp_L_acts_282 N (C, L) (lN e) kont n x (nI i)) (fun i x => ∃ b : Bool, x = (if b = true then nI 1 else nI 0) ∧ (b = true ↔ ∃ w, w < i ∧ enc (lc a (554 + 9 * w)) (a (554 + 9 * w)) = e)) (a 1) (fun n i x hi hI => by
    obtain ⟨b, h1, h2⟩ := hI
    subst h1
    have hlt : (nI (a 1) ≤ nI i) = False := propext ⟨fun q => by have := (nI_leI (by omega) (by omega)).mp q; omega, fun q => q.elim⟩
    have hnm := nm_ok hw hi
    have hnl := hb.2.2.2.2.1 _ hi
    have hs := Nat.lt_trans (enc_small hnm (by omega)) (show 33554432 < 2147483648 by decide)
    cases b with
    | true =>
      refine ⟨nI 1, ⟨true, rfl, ⟨fun _ => ?_, fun _ => rfl⟩⟩, ?_⟩
      · obtain ⟨w, w1, w2⟩ := h2.mp rfl
        exact ⟨w, by omega, w2⟩
      · show lp_L_acts_282 N (C, L) (lN e) kont (n + 1) (nI 1) (nI i) = lp_L_acts_282 N (C, L) (lN e) kont n (nI 1) (nI (i + 1))
        rw [lp_L_acts_282]
        simp only [i_6, i_0, i_1, c6, g6, g6', hlt, ↓reduceIte, jn_eq]
        rw [if_neg (show ¬ nI 1 = nI 0 by decide), nI_add]
    | false =>
      by_cases y : enc (lc a (554 + 9 * i)) (a (554 + 9 * i)) = e
      · refine ⟨nI 1, ⟨true, rfl, ⟨fun _ => ⟨i, by omega, y⟩, fun _ => rfl⟩⟩, ?_⟩
        show lp_L_acts_282 N (C, L) (lN e) kont (n + 1) (nI 0) (nI i) = lp_L_acts_282 N (C, L) (lN e) kont n (nI 1) (nI (i + 1))
        rw [lp_L_acts_282]
        simp only [i_6, i_8, i_1, c6, g6, g6', hlt, ↓reduceIte, jn_eq, nI_add]
        rw [if_pos (show nI 0 = (0 : Int32) by decide), q_gIn (by omega) (by decide), q_cl (by omega), hL.2.2.2.1 i hi, nI_l hs, if_pos (show lg_cmp (lN (enc (lc a (554 + 9 * i)) (a (554 + 9 * i)))) (lN e) = 0 by rw [lg_eq0 hs (by omega)]; exact y)]
      · refine ⟨nI 0, ⟨false, rfl, ⟨fun q => (by cases q), fun q => ?_⟩⟩, ?_⟩
        · obtain ⟨w, w1, w2⟩ := q
          by_cases y2 : w = i
          · rw [y2] at w2
            exact absurd w2 y
          · exact h2.mpr ⟨w, by omega, w2⟩
        show lp_L_acts_282 N (C, L) (lN e) kont (n + 1) (nI 0) (nI i) = lp_L_acts_282 N (C, L) (lN e) kont n (nI 0) (nI (i + 1))
        rw [lp_L_acts_282]
        simp only [i_6, i_8, i_1, c6, g6, g6', hlt, ↓reduceIte, jn_eq, nI_add]
        rw [if_pos (show nI 0 = (0 : Int32) by decide), q_gIn (by omega) (by decide), q_cl (by omega), hL.2.2.2.1 i hi, nI_l hs, if_neg (show ¬ lg_cmp (lN (enc (lc a (554 + 9 * i)) (a (554 + 9 * i)))) (lN e) = 0 by rw [lg_eq0 hs (by omega)]; exact y), i_0]) (N := N) 0 (nI 0) (Nat.zero_le _) (by omega) ⟨false, rfl, ⟨fun q => (by cases q), fun ⟨w, w1, _⟩ => absurd w1 (Nat.not_lt_zero w)⟩⟩
  refine ⟨b, e1.trans ?_, h2⟩
  show lp_L_acts_282 N (C, L) (lN e) kont (n + 1) x' (nI (a 1)) = _
  rw [lp_L_acts_282]
  simp only [i_6, c6, g6, g6']
  rw [if_pos (Int32.le_refl _), h1]
theorem A_name (hR : RA C M a t c) (hb : LB a) (hL : LR L a) (hv : v < 10000000) (h1 : f_L_low N (z >>> (nI 5 &&& 31)) 10000000 = some (nI v)) (h2 : f_L_low N z 18 = some (nI r)) (hr : r < 18) (hr2 : 3 ≤ r) (hr3 : r < 7) (hN : 3000 ≤ N) : XQ (f_L_acts N (C, L) z) := by
  obtain ⟨C1, M1, e1, hR1⟩ := E_clear (N := N) hR
  have ht := hR.tx.1
  unfold f_L_acts
  rw [i_5, h1, ob]
  dsimp only
  rw [e1, ob, jn_eq]
  dsimp only
  simp only [i_0, i_1, i_2, i_3, i_4, i_5, i_6, i_7, i_8, i_9, i_10, i_11, i_12]
  refine XQ.of (jp1 (x := nI 1) (fun j => if_neg (nI_pos (by omega)))) ?_
  try dsimp only
  rw [h2, ob, jn_eq, jn_eq, jn_eq, jn_eq, sel3n hr (by omega), sel4 hr2 hr3]
  have hw := hR.rc.1
  have w1 := hb.2.1
  have g6 : L 0 6 = nI (a 1) := hL.1.2.2.1
  have c6 : (nI 6).toNatClampNeg = 6 := q_cl (by decide)
  have g6' : ∀ x : Option (Int32 × (kS × kS)), gIn (nI 6) 8 x = x := fun x => q_gIn (by decide) (by decide)
  have hm := Nat.mod_lt (v / 64) (show 0 < 3 by decide)
  have hd64 : nI v / nI 64 = nI (v / 64) := q_div (by omega) (by decide) (by decide)
  have h3 : nI (v / 64) - nI (v / 64) / nI 3 * nI 3 = nI (v / 64 % 3) := q_rem (by omega) (by decide) (by decide)
  obtain ⟨n, hn, hn3⟩ : ∃ n, n = 1 + v / 64 % 3 ∧ (1 ≤ n ∧ n ≤ 3) := ⟨_, rfl, by omega⟩
  obtain ⟨d, hd, hdl⟩ := f_letters (N := N) (nI v) (m := n) (by omega) hN
  have hs := enc_small hd (by omega)
  simp only [i_64]
  rw [q_nz (by decide) (by decide), q_nz (by decide) (by decide)]
  simp only [hd64, h3, nI_add]
  rw [← hn, hdl, ob, jn_eq]
  obtain ⟨b, e3, hbb⟩ := f_282 (N := N) (C := C1) hw hb hL hs _ hN
  refine XQ.of e3 ?_
  try dsimp only
  simp only [c6, g6, g6']
  have hl9 : ∀ v, v < a 1 → a (554 + 9 * v) < 9 := fun v hv => by
    have := hb.2.2.2.2.1 v hv
    omega
  by_cases y4 : a 1 = 4
  · rw [if_pos (by rw [y4])]
    refine XQ.of (jp2 (x := nI 1) (y := (C1, L)) (fun j => ?_)) (XQ.fin ⟨M1, a, 0, c, hR1, hb, hL⟩)
    rw [if_neg (by decide), E_nameF hR1 (Or.inl (by unfold oneW; rfl)) hN, ob, jn_eq]
    dsimp only
    rw [if_pos (by decide)]
  rw [if_neg (fun q => y4 ((nI_eq (by omega) (by decide)).mp q))]
  cases b with
  | true =>
    rw [if_neg (by decide)]
    obtain ⟨w, hw1, hw2⟩ := hbb.mp rfl
    obtain ⟨C2, M2, c', e2, hR2, -, hc'⟩ := f_says (N := N) (L := L) hR1 hd (by omega) (by omega) hN
    rw [Nat.zero_add] at hR2
    simp only [Nat.zero_add] at hc'
    refine XQ.of (jp2 (x := nI 1) (y := (C2, L)) (fun j => ?_)) (XQ.fin ⟨M2, a, n, c', hR2, hb, hL⟩)
    rw [if_neg (by decide), e2, ob, jn_eq]
    dsimp only
    rw [if_neg (by decide), E_nameF hR2 (Or.inr ⟨w, hw1, (eqW_iff hd hc' (nm_ok hw hw1)).mpr hw2⟩) hN, ob, jn_eq]
    dsimp only
    rw [if_pos (by decide)]
  | false =>
    rw [if_pos (by decide), nI_add, q_gIn (by omega) (by decide), gL_n (by omega), jn_eq, q_cl (by omega), lN_i]
    dsimp only
    have g6L : (up1 L 2 (upd (L 2) (8 + a 1) (nI (enc d n)))) 0 6 = nI (a 1) := by rw [up1_n (by decide)]; exact g6
    rw [g6L, jn_eq, nI_add]
    try dsimp only
    generalize hL2 : up1 L 2 (upd (L 2) (8 + a 1) (nI (enc d n))) = L2 at g6L
    obtain ⟨C2, M2, c', e2, hR2, -, hc'⟩ := f_says (N := N) (L := up1 L2 0 (upd (L2 0) 6 (nI (a 1 + 1)))) hR1 hd (by omega) (by omega) hN
    rw [Nat.zero_add] at hR2
    simp only [Nat.zero_add] at hc'
    obtain ⟨C3, M3, e4, hR3⟩ := E_name (N := N) hR2 (by omega) (one_ok hd hc' hn3.1 (by omega)) (fun w hw1 => by
      cases q : eqW a 554 9 n c' w with
      | false => rfl
      | true =>
        have := hbb.mpr ⟨w, hw1, (eqW_iff hd hc' (nm_ok hw hw1)).mp q⟩
        cases this) hN
    refine XQ.of (jp2 (x := nI 1) (y := (C3, up1 L2 0 (upd (L2 0) 6 (nI (a 1 + 1))))) (fun j => ?_)) ?_
    · rw [if_neg (by decide), e2, ob, jn_eq]
      dsimp only
      rw [if_neg (by decide), e4, ob, jn_eq]
      dsimp only
      rw [if_pos (by rw [up1_s, pk_us, q_sub (by omega), Nat.add_sub_cancel])]
    have k1 : ∀ j, j ≠ 2 → L2 j = L j := fun j hj => by rw [← hL2, up1_n hj]
    obtain ⟨p0, p1, p2, p3, p4⟩ := new_row (a := a) (ci := 1) (base := 554) (wide := 9) (by decide) hn3.1 hd hc' hl9
    have hro : ∀ j, j ≠ 1 → (j < 554 ∨ 626 ≤ j) → pgG 1 554 9 a c' n j = a j := fun j j1 j2 => p1 j j1 (by omega)
    refine XQ.fin ⟨M3, _, _, _, hR3, ⟨by rw [hro 0 (by decide) (by decide)]; exact hb.1, by rw [p0]; omega, by rw [hro 2 (by decide) (by decide)]; exact hb.2.2.1, fun w' hw' => ?_, fun k hk => ?_, fun e he => ?_⟩, ?_⟩
    · rw [hro 0 (by decide) (by decide)] at hw'
      have := hb.1
      rw [hro _ (by omega) (by omega)]
      exact hb.2.2.2.1 w' hw'
    · rw [p0] at hk
      by_cases y : k < a 1
      · rw [(p2 k y).1]
        exact hb.2.2.2.2.1 k y
      · rw [show k = a 1 by omega, p3]
        omega
    · rw [hro 2 (by decide) (by decide)] at he
      rw [hro _ (by omega) (by omega)]
      exact hb.2.2.2.2.2 e he
    refine LR.mk (fun i hi => ?_) ?_ ?_ ?_ (fun k hk => ?_) (fun w' hw' => ?_) (fun k hk => ?_) (fun e he => ?_)
    · rw [up1_s, pk_un (by omega), k1 0 (by decide), hro _ (by omega) (by omega)]
      exact hL.s hi
    · rw [up1_s, pk_un (by omega), k1 0 (by decide), hro 0 (by decide) (by decide)]
      exact hL.1.2.1
    · rw [up1_s, pk_us, p0]
    · rw [up1_s, pk_un (by omega), k1 0 (by decide), hro 2 (by decide) (by decide)]
      exact hL.1.2.2.2
    · rw [up1_n (by decide), k1 1 (by decide), hro _ (by omega) (by omega)]
      exact hL.2.1 k hk
    · rw [hro 0 (by decide) (by decide)] at hw'
      have := hb.1
      have hlen := hb.2.2.2.1 w' hw'
      rw [up1_n (by decide), ← hL2, up1_s, pk_un (by omega), hro _ (by omega) (by omega), hL.2.2.1 w' hw']
      congr 1
      exact enc_congr (fun i hi => by
        unfold lc
        rw [hro _ (by omega) (by omega)])
    · rw [p0] at hk
      by_cases y : k < a 1
      · rw [up1_n (by decide), ← hL2, up1_s, pk_un (by omega), (p2 k y).2]
        exact hL.2.2.2.1 k y
      · have ek : k = a 1 := by omega
        subst ek
        rw [up1_n (by decide), ← hL2, up1_s, pk_us, p4]
    · rw [hro 2 (by decide) (by decide)] at he
      rw [up1_n (by decide), ← hL2, up1_s, pk_un (by omega), hro _ (by omega) (by omega), hL.2.2.2.2 e he]
      congr 1
      exact enc_congr (fun i hi => by
        unfold lc
        rw [hro _ (by omega) (by omega)])
end AN
