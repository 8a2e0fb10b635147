section NN2
variable {C M : kS} {a : kA} {N t h ci base wide mw ml k : Nat} {c : Nat → Nat} {p : Nat → Nat} {bs : Nat → kA}
/-- the reference's loop over the words of a list -/
theorem m_can (hT : TxC C M t c) (hM : SM M a) (hwl : WL a base wide ml (a ci)) (hwd : wide = ml + 1) (hn : a ci ≤ mw) (hmw : mw ≤ 40) (hfit : base + wide * mw ≤ 642) (hci : ci < base) (hb : base ≤ 642) (hN : 3000 ≤ N) (kont : Int32 → Option (Int32 × kS)) : lp_X9_makes_12 N M (nI ci) (nI base) (nI wide) kont N (nI (if oneW c t ml = true then 1 else 0)) (nI 0) = kont (nI (if oneW c t ml = true ∧ ¬ fst (eqW a base wide t c) (a ci) < a ci then 1 else 0)) := by
  cases z : oneW c t ml with
  | false =>
    obtain ⟨n, hn2⟩ : ∃ n, N = n + 1 := ⟨N - 1, by omega⟩
    have e1 : ∀ n, lp_X9_makes_12 N M (nI ci) (nI base) (nI wide) kont (n + 1) (nI 0) (nI 0) = kont (nI 0) := fun n => by
      rw [lp_X9_makes_12]
      simp (disch := omega) only [q_gIn, q_cl, hM _, i_0, ↓reduceIte, ite_self]
    have e2 := e1 n
    rw [← hn2] at e2
    simp only [Bool.false_eq_true, ↓reduceIte, false_and]
    exact e2
  | true =>
    have hl := (oneW_t z).2
    simp only [↓reduceIte, true_and]
    refine (lpX (fun n i => lp_X9_makes_12 N M (nI ci) (nI base) (nI wide) kont n (nI 1) (nI i)) (a ci) (eqW a base wide t c) (fun _ => kont (nI 0)) (kont (nI 1)) (fun n i hi hp => ?_) (fun n i hi hp => ?_) (fun n => ?_) (N := N) (by omega)).trans ?_
    · show lp_X9_makes_12 N M (nI ci) (nI base) (nI wide) kont (n + 1) (nI 1) (nI i) = lp_X9_makes_12 N M (nI ci) (nI base) (nI wide) kont n (nI 1) (nI (i + 1))
      have e1 := m_isText (N := N) hT hM hwl hwd hn hfit hl hi hN
      rw [hp] at e1
      rw [lp_X9_makes_12]
      simp (disch := omega) only [q_gIn, q_cl, hM _, q_le, Nat.not_le.mpr hi, ↓reduceIte, i_0, q_nT, pk_mul, nI_add, e1, ob, ↓jn_eq, Bool.false_eq_true, i_1]
    · show lp_X9_makes_12 N M (nI ci) (nI base) (nI wide) kont (n + 2) (nI 1) (nI i) = kont (nI 0)
      have e1 := m_isText (N := N) hT hM hwl hwd hn hfit hl hi hN
      rw [hp] at e1
      rw [lp_X9_makes_12]
      simp (disch := omega) only [q_gIn, q_cl, hM _, q_le, Nat.not_le.mpr hi, ↓reduceIte, i_0, q_nT, pk_mul, nI_add, e1, ob, ↓jn_eq, i_1]
      rw [lp_X9_makes_12]
      simp (disch := omega) only [q_gIn, q_cl, hM _, ↓reduceIte, i_0, ite_self]
    · show lp_X9_makes_12 N M (nI ci) (nI base) (nI wide) kont (n + 1) (nI 1) (nI (a ci)) = kont (nI 1)
      rw [lp_X9_makes_12]
      simp (disch := omega) only [q_gIn, q_cl, hM _, q_le, Nat.le_refl, ↓reduceIte]
    · by_cases x : fst (eqW a base wide t c) (a ci) < a ci
      · simp only [x, ↓reduceIte, not_true]
      · simp only [x, ↓reduceIte, not_false_iff]
theorem m_letters {M9 : kS} (hT : TxC C M t c) (hM9 : SM M9 a) (hl : ∀ i, i < t → isl (c i) = true) (hci : ci < 642) (hfit : base + wide * a ci + 1 + t ≤ 642) (kont : kS → Option (Int32 × kS)) (hN : 3000 ≤ N) : ∃ M', lp_X9_makes_106 N (nI ci) (nI base) (nI wide) M9 kont N (nI 0) M = kont M' ∧ (∀ j, j ≠ 1 → M' j = M j) ∧ ∀ j, M' 1 j = if base + wide * a ci + 1 ≤ j ∧ j < base + wide * a ci + 1 + t then nI (c (j - (base + wide * a ci + 1)) - 97) else M 1 j := by
  have ht := hT.1
  obtain ⟨D, n, ⟨b0, b1⟩, e⟩ := lpN (fun n i (x : kS) => lp_X9_makes_106 N (nI ci) (nI base) (nI wide) M9 kont n (nI i) x) (fun i x => (∀ j, j ≠ 1 → x j = M j) ∧ ∀ j, x 1 j = if base + wide * a ci + 1 ≤ j ∧ j < base + wide * a ci + 1 + i then nI (c (j - (base + wide * a ci + 1)) - 97) else M 1 j) t (fun n i x hi hI => by
    obtain ⟨c0, c1⟩ := hI
    have h97 : 97 ≤ c i ∧ c i ≤ 122 := of_decide_eq_true (hl i hi)
    refine ⟨up1 x 1 (upd (x 1) (base + wide * a ci + 1 + i) (nI (c i - 97))), ⟨fun j hj => by rw [up1_n hj]; exact c0 j hj, fun j => ?_⟩, ?_⟩
    · rw [up1_s]
      by_cases z : j = base + wide * a ci + 1 + i
      · subst z
        rw [pk_us, if_pos (by omega), Nat.add_sub_cancel_left]
      · rw [pk_un z, c1 j]
        by_cases z2 : base + wide * a ci + 1 ≤ j ∧ j < base + wide * a ci + 1 + i
        · rw [if_pos z2, if_pos (by omega)]
        · rw [if_neg z2, if_neg (by omega)]
    · show lp_X9_makes_106 N (nI ci) (nI base) (nI wide) M9 kont (n + 1) (nI i) x = lp_X9_makes_106 N (nI ci) (nI base) (nI wide) M9 kont n (nI (i + 1)) _
      have e4 : x 0 4 = nI t := by rw [c0 0 (by decide)]; exact hT.2.2.1
      have e3 : x 3 i = nI (c i) := by rw [c0 3 (by decide)]; exact (hT.2.2.2 i hi).2.2
      rw [lp_X9_makes_106, e4]
      simp (disch := omega) only [q_le, Nat.not_le.mpr hi, ↓reduceIte, q_gIn, q_cl, hM9 _, pk_mul, nI_add, i_1, e3, i_97, q_sub, ↓jn_eq]) (N := N) 0 M (Nat.zero_le _) (by omega) ⟨fun j _ => rfl, fun j => by rw [if_neg (by omega)]⟩
  refine ⟨D, e.trans ?_, b0, b1⟩
  show lp_X9_makes_106 N (nI ci) (nI base) (nI wide) M9 kont (n + 1) (nI t) D = _
  rw [lp_X9_makes_106, b0 0 (by decide), hT.2.2.1]
  simp (disch := omega) only [q_le, Nat.le_refl, ↓reduceIte]
theorem J_make (hR : RD C M a) (hH : HsC C M h p bs) (hT : TxC C M t c) (hW : ∀ D : kS, StC D 4 a → WdC D k mw ml a (a ci) base wide) (hwl : WL a base wide ml (a ci)) (hn : a ci ≤ mw) (hwd : wide = ml + 1) (hmw : mw ≤ 40) (hml : ml ≤ 12) (hci : ci < base) (hci3 : ci < 34) (hb : base + wide * mw ≤ 642) (l2 : ln (k + 2) = mw * ml) (l4 : ln (k + 4) = mw) (hk : 5 ≤ k ∧ k + 4 < 24) (hchg : ∀ (D D' : kS) (a' : kA), StC D 4 a → (∀ j, j ≠ k → j ≠ k + 2 → j ≠ k + 4 → D' j = D j) → WdC D' k mw ml a' (a' ci) base wide → a' ci ≤ mw ∧ WL a' base wide ml (a' ci) → (∀ j, j ≠ ci → (j < base ∨ base + wide * mw ≤ j) → a' j = a j) → WF a' ∧ StC D' 4 a') (hN : 3000 ≤ N) : ∃ r C' M', f_X8_addTextTo N C k = some (r, C') ∧ f_X9_makes N M (nI ci) (nI base) (nI wide) (nI mw) = some (r, M') ∧ Rl C' M' := by
  have hR0 := hR
  obtain ⟨hw, hM, hS, hD⟩ := hR
  have ht := hT.1
  have hWC := hW C hS
  have hmwf := wm (wide := wide) (v := 0) (w := mw)
  unfold f_X8_addTextTo f_X9_makes f_X7_greatestLength
  rw [hWC.2.1, ob, x_oneWord hT (by omega) hN]
  have e0 : nI wide - 1 = nI ml := by rw [i_1, hwd, q_sub (by omega), Nat.add_sub_cancel]
  rw [e0, m_oneWord hT (by omega) hN, ob, ob, i_0]
  simp only [jn_eq]
  rw [m_can hT hM hwl hwd hn hmw hb hci (by omega) hN]
  cases z : oneW c t ml with
  | false =>
    refine ⟨-12, C, M, ?_, ?_, a, h, p, bs, t, c, hR0, hH, hT⟩
    · simp only [Bool.false_eq_true, ↓reduceIte]
    · simp only [Bool.false_eq_true, false_and, ↓reduceIte]
  | true =>
    obtain ⟨ht2, hl⟩ := oneW_t z
    rw [x_hasWord hT hWC hwl l2 l4 hmw hml hn hl hN]
    by_cases y : fst (eqW a base wide t c) (a ci) < a ci
    · refine ⟨-12, C, M, ?_, ?_, a, h, p, bs, t, c, hR0, hH, hT⟩
      · simp only [y, ↓reduceIte, q_nT, ob]
      · simp only [y, not_true, and_false, ↓reduceIte]
    · have hfull : f_X7_isFull N C k = some (nI (if a ci = mw then 1 else 0)) := by
        unfold f_X7_isFull
        rw [hWC.1, hWC.2.2.1]
        simp only [jn_eq]
        by_cases x : a ci = mw
        · rw [if_neg (fun q => by have := (nI_ltI (by omega) (by omega)).mp q; omega), if_pos x]
          rfl
        · rw [if_pos ((nI_ltI (by omega) (by omega)).mpr (by omega)), if_neg x]
          rfl
      simp (disch := omega) only [y, ↓reduceIte, q_nT, ob, not_false_iff, and_self, hfull, q_gIn, q_cl, hM _, q_eq, Nat.one_ne_zero]
      by_cases x : a ci = mw
      · refine ⟨-13, C, M, ?_, ?_, a, h, p, bs, t, c, hR0, hH, hT⟩
        · simp only [x, ↓reduceIte, q_nT, Nat.one_ne_zero]
        · simp only [x, ↓reduceIte]
      · have hlt : a ci < mw := by omega
        have hm3 := wm (wide := wide) hlt
        simp only [x, ↓reduceIte]
        obtain ⟨C2, M2, h', p', bs', e2, e3, hH2, kc, km⟩ := J_keep (N := N) hH hw hM hS hN
        have hS2 : StC C2 4 a := hS.cg (fun j _ _ => kc j (by omega))
        have hM2 : SM M2 a := fun i hi => by rw [km.1 1 (by decide) (by decide)]; exact hM i hi
        have hT2 : TxC C2 M2 t c := (hT.cgM (km.1 3 (by decide) (by decide)) (km.2 4 (by decide))).cgC (by rw [kc 1 (by decide)]) (kc 3 (by decide))
        have hI0 : invW ci base wide mw ml a 0 := ⟨hn, hwl, fun q => absurd rfl q⟩
        have hok : ∀ i, i < t → isl (c i) = true → run c i < ml ∧ (run c i = 0 → pgG ci base wide a c i ci < mw) := fun i hi _ => by
          rw [run_all hl i (by omega)]
          refine ⟨by omega, fun q => ?_⟩
          rw [q]
          exact hlt
        obtain ⟨C4, e4, hW4, x4⟩ := x_addWords (N := N) hT2 (hW C2 hS2) hI0 hci hwd hmw hml l2 l4 hk.1 hok hN
        have hv := pgG_inv hI0 hci hwd (fun i hi => (hT2.2.2.2 i hi).1.2) hok t (Nat.le_refl _)
        have hout := fun j (hj : j ≠ ci) (hj2 : j < base ∨ base + wide * mw ≤ j) => pgG_out hI0 hci hwd (fun i hi => (hT2.2.2.2 i hi).1.2) hok hj hj2 t (Nat.le_refl _)
        obtain ⟨hw4, hS4⟩ := hchg C2 C4 (pgG ci base wide a c t) hS2 x4 hW4 ⟨hv.1, hv.2.1⟩ hout
        have hall := pgG_all (a := a) (wide := wide) hci hl (t - 1) (by omega)
        rw [show t - 1 + 1 = t by omega] at hall
        -- the reference's writes
        have hT3 : TxC C2 (up1 M2 1 (upd (M2 1) (base + wide * a ci) (nI t))) t c := hT2.cgM (up1_n (by decide)) (by rw [up1_n (by decide)])
        obtain ⟨M5, e5, y5, y6⟩ := m_letters (N := N) (ci := ci) (base := base) (wide := wide) hT3 hM2 hl (by omega) (by omega) (fun C13 => gIn (nI ci) 642 (gIn (nI ci) 642 (some ((up1 C13 1 (upd (C13 1) ci (C13 1 ci + 1))) 1 ci - 1, up1 C13 1 (upd (C13 1) ci (C13 1 ci + 1)))))) hN
        have y7 : M5 1 ci = nI (a ci) := by
          rw [y6 ci, if_neg (by omega), up1_s, pk_un (by omega)]
          exact hM2 ci (by omega)
        have hM6 : SM (up1 M5 1 (upd (M5 1) ci (nI (a ci + 1)))) (pgG ci base wide a c t) := fun i hi => by
          rw [up1_s, hall i]
          by_cases z1 : i = ci
          · subst z1
            rw [pk_us, if_pos rfl]
          · rw [pk_un z1, if_neg z1, y6 i]
            by_cases z2 : i = base + wide * a ci
            · rw [if_pos z2, if_neg (by omega), up1_s, z2, pk_us]
            · rw [if_neg z2]
              by_cases z3 : base + wide * a ci + 1 ≤ i ∧ i < base + wide * a ci + 1 + t
              · rw [if_pos z3, if_pos z3]
              · rw [if_neg z3, if_neg z3, up1_s, pk_un z2]
                exact hM2 i hi
        have hH4 : HsC C4 (up1 M5 1 (upd (M5 1) ci (nI (a ci + 1)))) h' p' bs' := hH2.cg (fun j j1 j2 => by rw [x4 j (by omega) (by omega) (by omega)]) (by rw [up1_n (by decide), y5 2 (by decide), up1_n (by decide)]) (by rw [up1_n (by decide), y5 0 (by decide), up1_n (by decide)])
        have hT4 : TxC C4 (up1 M5 1 (upd (M5 1) ci (nI (a ci + 1)))) t c := (hT3.cgM (by rw [up1_n (by decide), y5 3 (by decide)]) (by rw [up1_n (by decide), y5 0 (by decide)])).cgC (by rw [x4 1 (by omega) (by omega) (by omega)]) (x4 3 (by omega) (by omega) (by omega))
        obtain ⟨C5, e6, x5, hR5⟩ := J_fin (N := N) hw4 hM6 hS4 hH4 hT4 hN
        have hci2 : pgG ci base wide a c t ci = a ci + 1 := by rw [hall ci, if_pos rfl]
        refine ⟨nI (a ci), C5, _, ?_, ?_, hR5⟩
        · rw [e2, ob, e4, ob, e6, ob]
          unfold f_X7_size
          rw [x5 k (by omega), hW4.2.2.1, ob, hci2, i_1, q_sub (by omega), Nat.add_sub_cancel]
        · rw [e3, ob]
          simp (disch := omega) only [q_gIn, q_cl, hM2 _, pk_mul, nI_add, hT2.2.2.1]
          have e7 : lp_X9_makes_106 N (nI ci) (nI base) (nI wide) M2 (fun C13 => some (up1 C13 1 (upd (C13 1) ci (C13 1 ci + 1)) 1 ci - 1, up1 C13 1 (upd (C13 1) ci (C13 1 ci + 1)))) N (nI 0) (up1 M2 1 (upd (M2 1) (base + wide * a ci) (nI t))) = some (nI (a ci), up1 M5 1 (upd (M5 1) ci (nI (a ci + 1)))) := by
            simp (disch := omega) only [q_gIn] at e5
            rw [e5]
            simp (disch := omega) only [y7, i_1, nI_add, up1_s, pk_us, q_sub, Nat.add_sub_cancel]
          exact e7
end NN2
