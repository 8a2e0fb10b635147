/-! ===== both programs' answers: form, guess, same ===== -/
theorem neg_m1 {v : Int32} (h : v < 0) : v = -nI 1 ∨ v < -nI 1 := by
  have h1 := Int32.lt_iff_toInt_lt.mp h
  have h2 : (0 : Int32).toInt = 0 := by decide
  have h3 : (-nI 1 : Int32).toInt = -1 := by decide
  rcases Int.lt_or_le v.toInt (-1) with q | q
  · exact Or.inr (Int32.lt_iff_toInt_lt.mpr (by omega))
  · exact Or.inl (Int32.toInt_inj.mp (by omega))
theorem nI_nm1 {n : Nat} (h : n < 2147483648) : (nI n < -nI 1) = False := eq_false (fun q => by
  have h1 := Int32.lt_iff_toInt_lt.mp q
  rw [nI_toInt h] at h1
  have h3 : (-nI 1 : Int32).toInt = -1 := by decide
  omega)
section JJ3
variable {C M : kS} {a : kA} {N m st : Nat}
theorem fnum {f : Nat} : nI (f / (a 2 + 1)) * nI (a 2 + 1) + (nI (f % (a 2 + 1)) - nI 1) + nI 1 = nI f := by
  rw [Int32.add_assoc, Int32.sub_add_cancel, pk_mul, nI_add]
  have h := Nat.div_add_mod f (a 2 + 1)
  rw [Nat.mul_comm] at h
  rw [h]
theorem x_lenForm (hS : StC C 4 a) (hw : WF a) {f : Nat} (hf : f < sF a) : f_X5_lengthOfForm N C (nI (f / (a 2 + 1))) (nI (f % (a 2 + 1)) - nI 1) = some (nI (fl a f)) := by
  unfold f_X5_lengthOfForm
  rw [x_lenE hS hw f, x_lengthOf (k := 10) (mw := 8) (ml := 8) hS.2.1 rfl (by decide) hw.2.1 (fq hf), ob, ob, nI_add]
  rfl
theorem x_numberOf (hF : FmC C a) {f : Nat} : f_X1_numberOf N C (nI (f / (a 2 + 1))) (nI (f % (a 2 + 1)) - nI 1) = some (nI f) := by
  unfold f_X1_numberOf
  rw [hF.1, i_1, fnum]
theorem x_wordsAs (hS : StC C 4 a) (hH : HdC C a) (hw : WF a) (x : Int32) (hN : 3000 ≤ N) : f_X4_wordsHiddenAs N C x = some (nI (ct (fun w => decide (foV a w = x)) (a 0))) := by
  have w0 := hw.1
  unfold f_X4_wordsHiddenAs
  simp only [↓jn_eq]
  rw [i_0]
  refine lpE (fun n u y => lp_X4_wordsHiddenAs_4 N C x (fun x1 => some x1) n u y) (fun i => ct (fun w => decide (foV a w = x)) i) (a 0) (by omega) (fun n w hwd => ?_) (fun n => ?_)
  · rw [lp_X4_wordsHiddenAs_4, ct, x_formOf hH hw hwd]
    simp (disch := omega) only [(x_size hS).1, q_le, Nat.not_le.mpr hwd, ob, ↓reduceIte, ↓jn_eq, i_1, nI_add, decide_eq_true_eq]
    by_cases z : foV a w = x
    · simp only [z, ↓reduceIte]
    · simp only [z, ↓reduceIte, Nat.add_zero]
  · rw [lp_X4_wordsHiddenAs_4]
    simp (disch := omega) only [(x_size hS).1, q_le, Nat.le_refl, ob, ↓reduceIte]
theorem m_wordsAs (hM : SM M a) (hL : LD M a m st) (hw : WF a) {a1 a2 r13 x : Int32} (hx : a1 * r13 + a2 + nI 1 = x) (hN : 3000 ≤ N) (kont : Int32 → Option (Int32 × kS)) : lp_X9_form_98 N a1 a2 M r13 kont N 0 0 = kont (nI (ct (fun w => decide (foV a w = x)) (a 0))) := by
  have w0 := hw.1
  rw [i_0]
  refine lpE (fun n u y => lp_X9_form_98 N a1 a2 M r13 kont n u y) (fun i => ct (fun w => decide (foV a w = x)) i) (a 0) (by omega) (fun n w hwd => ?_) (fun n => ?_)
  · obtain ⟨d1, d2, d3, d4⟩ := hL.2.2.2.2 w hwd
    rw [lp_X9_form_98, ct]
    simp (disch := omega) only [i_0, i_1, hx, q_gIn, q_cl, hM _, q_le, Nat.not_le.mpr hwd, ↓reduceIte, ↓jn_eq, d1, decide_eq_true_eq]
    by_cases z : foV a w = x
    · simp only [z, ↓reduceIte, nI_add]
    · simp only [z, ↓reduceIte, nI_add]
  · rw [lp_X9_form_98]
    simp (disch := omega) only [i_0, q_gIn, q_cl, hM _, q_le, Nat.le_refl, ↓reduceIte]
theorem J_form (h : RD C M a) (v e i : Int32) (hN : 3000 ≤ N) : ∃ r M', f_X8_form N C v e i = some r ∧ f_X9_form N M v e i = some (r, M') ∧ AgM M M' := by
  obtain ⟨hw, hM, hS, hF, hB, hH, hD⟩ := h
  obtain ⟨w0, w1, w2, w3, w4, w5, w6, w7, wl, wp, wn, we⟩ := id hw
  obtain ⟨M', eL, hA, hL⟩ := m_laysNow hM hw hN
  have hst := hw.2.2.2.2.1
  have hM' := hA.sm hM
  unfold f_X8_form f_X9_form
  rcases sg v with hv | ⟨nm, hnk, rfl⟩
  · refine ⟨-11, M, ?_, ?_, AgM.rf⟩
    · rw [x_hasG hv, ob, i_0, if_pos rfl]
    · rw [m_isNameG hv, ob, i_0, if_pos rfl]
  · rw [x_hasN hS.2.1.2.2.1 (by omega) hnk, m_isNameN hM w1 hnk, ob, ob]
    by_cases hnm : nm < a 1
    · simp only [hnm, ↓reduceIte, i_0, i_1, q_nT]
      have hE2 : (nm + 1) * (a 2 + 1) ≤ sF a := by unfold sF; exact Nat.mul_le_mul_right _ hnm
      rw [Nat.succ_mul] at hE2
      have key : (e < -nI 1 ∨ nI (a 2) ≤ e) ∨ ∃ f, f < sF a ∧ f / (a 2 + 1) = nm ∧ e = nI (f % (a 2 + 1)) - nI 1 ∧ ¬ e < -nI 1 ∧ ¬ nI (a 2) ≤ e := by
        rcases sg e with he | ⟨k, hk, rfl⟩
        · rcases neg_m1 he with h1 | h1
          · refine Or.inr ⟨nm * (a 2 + 1), by omega, Nat.mul_div_cancel _ (Nat.succ_pos _), ?_, ?_, ?_⟩
            · rw [h1, Nat.mul_mod_left, q_en0]
            · rw [h1]
              exact Int32.lt_irrefl
            · rw [ngGe he (by omega)]
              exact not_false
          · exact Or.inl (Or.inl h1)
        · by_cases hk2 : k < a 2
          · have hm0 : (nm * (a 2 + 1) + (k + 1)) % (a 2 + 1) = k + 1 := by
              rw [Nat.mul_comm, Nat.mul_add_mod, Nat.mod_eq_of_lt (by omega)]
            refine Or.inr ⟨nm * (a 2 + 1) + (k + 1), by omega, ?_, ?_, ?_, ?_⟩
            · rw [Nat.mul_comm, Nat.mul_add_div (Nat.succ_pos _), Nat.div_eq_of_lt (by omega), Nat.add_zero]
            · rw [hm0, q_sub (by omega), Nat.add_sub_cancel]
            · rw [nI_nm1 hk]
              exact not_false
            · rw [q_le (by omega) hk]
              omega
          · exact Or.inl (Or.inr ((nI_leI (by omega) hk).mpr (by omega)))
      rcases key with h1 | ⟨f, hf, hfn, hfe, h1, h2⟩
      · refine ⟨-11, M, ?_, ?_, AgM.rf⟩
        · have h3 : ¬ e = -nI 1 := fun q => by
            rcases h1 with h1 | h1
            · rw [q] at h1
              exact Int32.lt_irrefl h1
            · rw [q, ngGe (by decide) (by omega)] at h1
              exact h1
          have h4 : f_X7_has N C 15 e = some (nI 0) := by
            rcases sg e with he | ⟨k, hk, rfl⟩
            · exact x_hasG he
            · have hk2 : ¬ k < a 2 := fun q => by
                rcases h1 with h1 | h1
                · rw [nI_nm1 hk] at h1
                  exact h1
                · have := (nI_leI (by omega) hk).mp h1
                  omega
              rw [x_hasN hS.2.2.1.2.2.1 (by omega) hk, if_neg hk2]
          simp only [↓jn_eq, h3, ↓reduceIte, h4, ob]
        · rcases h1 with h1 | h1
          · rw [if_pos h1]
          · by_cases h3 : e < -nI 1
            · rw [if_pos h3]
            · rw [if_neg h3, i_2]
              simp (disch := omega) only [q_gIn, q_cl, hM _, h1, ↓reduceIte]
      · have h5 : ∀ T : Option Int32, (if e = -nI 1 then T else (f_X7_has N C 15 e).bind (fun r21 => if r21 = nI 0 then some (-11) else T)) = T := fun T => by
          by_cases h6 : e = -nI 1
          · rw [if_pos h6]
          · rw [if_neg h6]
            rcases sg e with he | ⟨k, hk, hek⟩
            · rcases neg_m1 he with h7 | h7
              · exact absurd h7 h6
              · exact absurd h7 h1
            · have hk2 : k < a 2 := by
                rcases Nat.lt_or_ge k (a 2) with q | q
                · exact q
                · exact absurd (by rw [hek]; exact (nI_leI (by omega) hk).mpr q) h2
              rw [hek, x_hasN hS.2.2.1.2.2.1 (by omega) hk, if_pos hk2, ob, if_neg (by rw [q_nT]; exact not_false)]
        simp only [↓jn_eq]
        rw [h5, if_neg h1, i_2]
        simp (disch := omega) only [q_gIn, q_cl, hM _, h2, ↓reduceIte]
        have en := x_numberOf (N := N) hF (f := f)
        have el := x_lenForm (N := N) hS hw hf
        rw [hfn, ← hfe] at en el
        have fx := fnum (a := a) (f := f)
        rw [hfn, ← hfe] at fx
        have hle := sF_le hw
        have e1 : f_X1_widthOf N C (nI f) = some (nI (fw a f)) := by
          unfold f_X1_widthOf
          rw [x_at (k := 107) (n := 40) rfl (by omega) (by decide), ob, hF.2.2.1 f hf]
        have e2 := x_barW (N := N) hB (Or.inl rfl) hw hf
        have e3 := x_wordsAs (N := N) hS hH hw (nI f) hN
        rw [en, ob, el, e1, e2, e3, i_3]
        rcases sg i with hi | ⟨j, hj, rfl⟩
        · refine ⟨-11, M, ?_, ?_, AgM.rf⟩
          · simp (disch := omega) only [ngE hi, ↓reduceIte]
          · rw [m_inG hi (by decide), ob, if_pos rfl]
        · rw [m_inN hj (by decide) (by decide), ob]
          by_cases j3 : j ≤ 3
          · simp (disch := omega) only [j3, Nat.zero_le, and_self, ↓reduceIte, q_nT, eL, ob, m_each hM', fx]
            obtain rfl | rfl | rfl | rfl : j = 0 ∨ j = 1 ∨ j = 2 ∨ j = 3 := by omega
            · refine ⟨nI (fl a f), M', ?_, ?_, hA⟩
              · simp only [↓reduceIte]
              · simp (disch := omega) only [q_le, Nat.reduceLeDiff, ↓reduceIte, m_lettersOf hM' hw hf, ob]
            · refine ⟨nI (fw a f), M', ?_, ?_, hA⟩
              · simp only [q_nT, ↓reduceIte]
              · simp (disch := omega) only [q_le, Nat.reduceLeDiff, q_nT, ↓reduceIte, q_gIn, q_cl, hL.2.1 f hf]
            · refine ⟨nI (bw a (a 3) (a 4) f), M', ?_, ?_, hA⟩
              · simp (disch := omega) only [q_eq, Nat.reduceEqDiff, ↓reduceIte]
              · simp (disch := omega) only [q_le, Nat.reduceLeDiff, q_eq, Nat.reduceEqDiff, ↓reduceIte, q_gIn, q_cl, hL.2.2.1 f hf]
            · refine ⟨nI (ct (fun w => decide (foV a w = nI f)) (a 0)), M', ?_, ?_, hA⟩
              · simp (disch := omega) only [q_eq, Nat.reduceEqDiff, ↓reduceIte]
              · simp (disch := omega) only [q_le, Nat.le_refl, ↓reduceIte]
                have := m_wordsAs hM' hL hw fx hN (fun x15 => some (x15, M'))
                rw [i_0] at this
                exact this
          · refine ⟨-11, M, ?_, ?_, AgM.rf⟩
            · simp (disch := omega) only [q_eq, if_neg]
            · simp only [j3, and_false, ↓reduceIte, ob]
    · refine ⟨-11, M, ?_, ?_, AgM.rf⟩
      · simp only [hnm, ↓reduceIte, i_0]
      · simp only [hnm, ↓reduceIte, i_0]
theorem x_guessL {v wt : Nat} {pl : Int32} (hS : StC C 4 a) (hF : FmC C a) (hB : BrC C 113 a m st) (hw : WF a) (hst : 1 ≤ st ∧ st ≤ 50) (hv : v ≤ 500) (hwt : wt ≤ 1) (hN : 3000 ≤ N) : lp_X8_guess_57 N C pl (nI wt) (nI v) (some (-14)) N (nI 0) = some (if fst (gss a m st v pl) (a 1) < a 1 then (if wt = 0 then nI (fst (gss a m st v pl) (a 1)) else nI (lgA a m st (fst (gss a m st v pl) (a 1)) v)) else -14) := by
  have w1 := hw.2.1
  refine (lpX (fun n i => lp_X8_guess_57 N C pl (nI wt) (nI v) (some (-14)) n (nI i)) (a 1) (gss a m st v pl) (fun k => some (if wt = 0 then nI k else nI (lgA a m st k v))) (some (-14)) (fun n i hi hp => ?_) (fun n i hi hp => ?_) (fun n => ?_) (N := N) (by omega)).trans ?_
  · show lp_X8_guess_57 N C pl (nI wt) (nI v) (some (-14)) (n + 1) (nI i) = lp_X8_guess_57 N C pl (nI wt) (nI v) (some (-14)) n (nI (i + 1))
    rw [lp_X8_guess_57, x_leastGap hF hB (Or.inl rfl) hw hst hi hv hN, i_m1]
    have hb := lg_b a m st i hv (sF a)
    have hp2 := of_decide_eq_false hp
    by_cases y : lgA a m st i v = 1000
    · simp (disch := omega) only [(x_size hS).2.1, ob, q_le, Nat.not_le.mpr hi, ↓reduceIte, ↓jn_eq, lgE, y, i_1, nI_add]
    · have hx := x_ahead hS hF hB hw hst hi hv y hN
      have hne : (nI (lgA a m st i v) = -nI 1) = False := q_m1n (by unfold lgA; omega)
      simp (disch := omega) only [(x_size hS).2.1, ob, q_le, Nat.not_le.mpr hi, ↓reduceIte, ↓jn_eq, lgE, y, i_1, nI_add, hne, hx]
      rw [if_neg (fun q => hp2 ⟨y, q⟩)]
  · show lp_X8_guess_57 N C pl (nI wt) (nI v) (some (-14)) (n + 2) (nI i) = _
    rw [lp_X8_guess_57, x_leastGap hF hB (Or.inl rfl) hw hst hi hv hN, i_m1]
    have hb := lg_b a m st i hv (sF a)
    have hp2 := of_decide_eq_true hp
    have y := hp2.1
    have hx := x_ahead hS hF hB hw hst hi hv y hN
    have hne : (nI (lgA a m st i v) = -nI 1) = False := q_m1n (by unfold lgA at y ⊢; omega)
    simp (disch := omega) only [(x_size hS).2.1, ob, q_le, Nat.not_le.mpr hi, ↓reduceIte, ↓jn_eq, lgE, y, hne, hx, i_0, q_eq]
    rw [if_pos hp2.2]
    by_cases x : wt = 0
    · simp only [x, ↓reduceIte]
    · simp only [x, ↓reduceIte]
  · show lp_X8_guess_57 N C pl (nI wt) (nI v) (some (-14)) (n + 1) (nI (a 1)) = _
    rw [lp_X8_guess_57]
    simp (disch := omega) only [(x_size hS).2.1, ob, q_le, Nat.le_refl, ↓reduceIte]
  · split <;> rfl
theorem J_guess (h : RD C M a) (v p i : Int32) (hN : 3000 ≤ N) : ∃ r M', f_X8_guess N C v p i = some r ∧ f_X9_guess N M v p i = some (r, M') ∧ AgM M M' := by
  obtain ⟨hw, hM, hS, hF, hB, hH, hD⟩ := h
  obtain ⟨w0, w1, w2, w3, w4, w5, w6, w7, wl, wp, wn, we⟩ := id hw
  obtain ⟨M', eL, hA, hL⟩ := m_laysNow hM hw hN
  have hst := hw.2.2.2.2.1
  have hM' := hA.sm hM
  unfold f_X8_guess f_X9_guess
  rcases sg v with hv | ⟨w, hwk, rfl⟩
  · refine ⟨-11, M, ?_, ?_, AgM.rf⟩
    · rw [x_hasG hv, ob, i_0, if_pos rfl]
    · rw [m_isWordG hv, ob, i_0, if_pos rfl]
  · rw [x_hasN hS.1.2.2.1 (by omega) hwk, m_isWordN hM w0 hwk, ob, ob]
    by_cases hwd : w < a 0
    · simp only [hwd, ↓reduceIte, i_0, i_1, q_nT]
      by_cases hp : p < nI 0
      · refine ⟨-11, M, ?_, ?_, AgM.rf⟩
        · rw [if_pos hp]
        · rw [if_pos hp]
      · rw [if_neg hp, if_neg hp]
        rcases sg i with hi | ⟨j, hj, rfl⟩
        · refine ⟨-11, M, ?_, ?_, AgM.rf⟩
          · simp (disch := omega) only [ngLt hi, ↓reduceIte]
          · rw [m_inG hi (by decide), ob, if_pos rfl]
        · rw [m_inN hj (by decide) (by decide), ob, if_neg (show ¬ nI j < nI 0 from nI_pos hj)]
          by_cases j1 : j ≤ 1
          · obtain ⟨d1, d2, d3, d4⟩ := hL.2.2.2.2 w hwd
            have s1 := sh_le hw (m := a 3) hst hwd
            rw [if_pos ((nI_leI hj (by decide)).mpr j1), x_isHidden hH hw hwd, x_shown hD hw hwd]
            simp (disch := omega) only [j1, Nat.zero_le, and_self, ↓reduceIte, q_nT, eL, ob, ↓jn_eq, q_gIn, q_cl, d1, d2]
            cases z : hid a w with
            | true =>
              obtain ⟨z1, z2⟩ := foV_t w z
              have hle := sF_le hw
              obtain ⟨R, e1, e2⟩ : ∃ R, lp_X8_guess_57 N C p (nI j) (nI (sh a (a 3) (a 4) w)) (some (-14)) N (nI 0) = some R ∧ f_X9_guessOf N M' (nI (sh a (a 3) (a 4) w)) p (nI j) = some R := ⟨_, x_guessL (N := N) (pl := p) hS hF hB hw hst (v := sh a (a 3) (a 4) w) (by omega) j1 hN, m_guessOf (N := N) (pl := p) hM' hw hL hst (v := sh a (a 3) (a 4) w) (by omega) j1 hN⟩
              refine ⟨R, M', ?_, ?_, hA⟩
              · simp only [↓reduceIte, q_nT, e1]
              · simp (disch := omega) only [z1, q_le, Nat.zero_le, ↓reduceIte, e2, ob]
            | false =>
              refine ⟨-12, M', ?_, ?_, hA⟩
              · simp only [Bool.false_eq_true, ↓reduceIte]
              · simp only [foV_f w z, q_le1n, ↓reduceIte]
          · refine ⟨-11, M, ?_, ?_, AgM.rf⟩
            · rw [if_neg (fun q => j1 ((nI_leI hj (by decide)).mp q))]
            · simp only [j1, and_false, ↓reduceIte]
    · refine ⟨-11, M, ?_, ?_, AgM.rf⟩
      · simp only [hwd, ↓reduceIte, i_0]
      · simp only [hwd, ↓reduceIte, i_0]
end JJ3
