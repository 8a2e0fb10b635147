/-! ===== both programs' answers: count, word, letter, under ===== -/
section JJ2
variable {C M : kS} {a : kA} {N : Nat}
theorem x_bars0 (hH : HdC C a) (hw : WF a) (m st : Nat) (hN : 3000 ≤ N) : f_X4_barsBetween N C (nI 0) (nI (a 0)) = some (nI (sumN (tm a m st 1) (a 0))) := by
  have h2 := x_bars (N := N) (S := fun i => sumN (tm a m st 1) i) hH hw (b := 0) (n := a 0) rfl (by omega) (fun i hi => by
    rw [sumN, Nat.zero_add]
    unfold tm
    rw [if_neg (by decide)]
    split
    · rfl
    · rfl) hN
  rw [Nat.zero_add] at h2
  exact h2
theorem J_count (h : RD C M a) (hh : C 24 1 = M 0 2) (ht : C 1 1 = M 0 4) (v : Int32) (hN : 3000 ≤ N) : ∃ r M', f_X8_count N C v = some r ∧ f_X9_count N M v = some (r, M') ∧ AgM M M' := by
  obtain ⟨hw, hM, hS, hF, hB, hH, hD⟩ := h
  obtain ⟨M', eL, hA, hL⟩ := m_laysNow hM hw hN
  have hst := hw.2.2.2.2.1
  have hM' := hA.sm hM
  unfold f_X8_count f_X9_count
  rcases sg v with hv | ⟨j, hj, rfl⟩
  · refine ⟨-11, M, ?_, ?_, AgM.rf⟩
    · simp (disch := omega) only [i_0, i_1, i_2, i_3, i_4, i_5, i_6, i_7, i_8, i_9, i_10, i_11, i_12, i_13, i_14, i_15, i_16, ngE hv, ↓reduceIte]
    · rw [i_0, i_16, m_inG hv (by decide), ob, if_pos rfl]
  · by_cases j16 : j ≤ 16
    · have e0 := (x_size (N := N) hS)
      have e1 := x_bars0 (N := N) hH hw (a 3) (a 4) hN
      have e2 : f_X4_lineCount N C = some (nI (lnN a (a 3) (a 4))) := by unfold f_X4_lineCount; rw [hD.1]; rfl
      have e5 : f_X1_size N C = some (nI (sF a)) := by unfold f_X1_size; rw [hF.2.1]
      have es : ∀ k, k < 5 → f_X3_at N C 22 (nI k) = some (nI (a (3 + k))) := fun k hk => by rw [x_at (k := 22) (n := 5) rfl hk (by decide), hS.2.2.2.2 k hk]
      have e11 := x_betrayed (N := N) hS hF hH hB (Or.inl rfl) hw hst hN
      have e12 := x_sumW (N := N) hS hH hB (Or.inl rfl) hw hN
      have e13 := x_gaps (N := N) hS hF hH hB hw hst hN
      have e14 := x_diff (N := N) hS hH hD hw hst hN
      have e15 : f_X2_size N C = some (M 0 2) := by unfold f_X2_size; rw [hh]
      have e16 : f_X6_size N C = some (M 0 4) := by unfold f_X6_size; rw [ht]
      have ems : ∀ {what : Nat}, what ≤ 100 → f_X9_sumOf N M' (nI what) = some (nI (sumN (tm a (a 3) (a 4) what) (a 0))) := fun hwt => m_sumOf hM' hw hL hst hwt hN
      have q14 : M' 0 14 = nI (lnN a (a 3) (a 4)) := hL.2.2.2.1
      have q9 : M' 0 9 = nI (sF a) := hL.1
      have q2 : M' 0 2 = M 0 2 := hA.2.2.2.1
      have q4 : M' 0 4 = M 0 4 := hA.2.2.2.2.1
      have hin : f_X9_in N (nI j) (nI 0) (nI 16) = some (nI 1) := by
        rw [m_inN hj (by decide) (by decide)]
        simp only [j16, Nat.zero_le, and_self, ↓reduceIte]
      obtain rfl | rfl | rfl | rfl | rfl | rfl | rfl | rfl | rfl | rfl | rfl | rfl | rfl | rfl | rfl | rfl | rfl : j = 0 ∨ j = 1 ∨ j = 2 ∨ j = 3 ∨ j = 4 ∨ j = 5 ∨ j = 6 ∨ j = 7 ∨ j = 8 ∨ j = 9 ∨ j = 10 ∨ j = 11 ∨ j = 12 ∨ j = 13 ∨ j = 14 ∨ j = 15 ∨ j = 16 := by omega
      · refine ⟨nI (a 0), M', ?_, ?_, hA⟩
        · simp (disch := omega) only [i_0, ↓reduceIte, e0.1, ob]
        · simp (disch := omega) only [i_0, i_1, i_16, hin, ob, q_nT, ↓reduceIte, eL, q_gIn, q_cl, hM' _]
      · refine ⟨nI (sumN (tm a (a 3) (a 4) 1) (a 0)), M', ?_, ?_, hA⟩
        · simp (disch := omega) only [i_0, i_1, q_eq, Nat.reduceEqDiff, Nat.one_ne_zero, ↓reduceIte, e0.1, ob, e1]
        · simp (disch := omega) only [i_0, i_1, i_16, hin, ob, q_eq, Nat.one_ne_zero, ↓reduceIte, eL, ems]
      · refine ⟨nI (lnN a (a 3) (a 4)), M', ?_, ?_, hA⟩
        · simp (disch := omega) only [i_0, i_1, i_2, q_eq, Nat.reduceEqDiff, ↓reduceIte, e2, ob]
        · simp (disch := omega) only [i_0, i_1, i_2, i_16, hin, ob, q_eq, Nat.reduceEqDiff, Nat.one_ne_zero, ↓reduceIte, eL, q14]
      · refine ⟨nI (a 1), M', ?_, ?_, hA⟩
        · simp (disch := omega) only [i_0, i_1, i_2, i_3, q_eq, Nat.reduceEqDiff, ↓reduceIte, e0.2.1, ob]
        · simp (disch := omega) only [i_0, i_1, i_2, i_3, i_16, hin, ob, q_eq, Nat.reduceEqDiff, Nat.one_ne_zero, ↓reduceIte, eL, nI_add, q_sub, Nat.reduceAdd, Nat.reduceSub, q_gIn, q_cl, hM' _]
      · refine ⟨nI (a 2), M', ?_, ?_, hA⟩
        · simp (disch := omega) only [i_0, i_1, i_2, i_3, i_4, q_eq, Nat.reduceEqDiff, ↓reduceIte, e0.2.2, ob]
        · simp (disch := omega) only [i_0, i_1, i_2, i_3, i_4, i_16, hin, ob, q_eq, Nat.reduceEqDiff, Nat.one_ne_zero, ↓reduceIte, eL, nI_add, q_sub, Nat.reduceAdd, Nat.reduceSub, q_gIn, q_cl, hM' _]
      · refine ⟨nI (sF a), M', ?_, ?_, hA⟩
        · simp (disch := omega) only [i_0, i_1, i_2, i_3, i_4, i_5, q_eq, Nat.reduceEqDiff, ↓reduceIte, e5, ob]
        · simp (disch := omega) only [i_0, i_1, i_2, i_3, i_4, i_5, i_16, hin, ob, q_eq, Nat.reduceEqDiff, Nat.one_ne_zero, ↓reduceIte, eL, q9]
      · refine ⟨nI (a 3), M', ?_, ?_, hA⟩
        · simp (disch := omega) only [i_0, i_1, i_2, i_3, i_4, i_5, i_6, q_eq, Nat.reduceEqDiff, ↓reduceIte, es, ob]
        · simp (disch := omega) only [i_0, i_1, i_2, i_3, i_4, i_5, i_6, i_16, hin, ob, q_eq, Nat.reduceEqDiff, Nat.one_ne_zero, ↓reduceIte, eL, nI_add, q_sub, Nat.reduceAdd, Nat.reduceSub, q_gIn, q_cl, hM' _]
      · refine ⟨nI (a 4), M', ?_, ?_, hA⟩
        · simp (disch := omega) only [i_0, i_1, i_2, i_3, i_4, i_5, i_6, i_7, q_eq, Nat.reduceEqDiff, ↓reduceIte, es, ob, Nat.reduceAdd]
        · simp (disch := omega) only [i_0, i_1, i_2, i_3, i_4, i_5, i_6, i_7, i_16, hin, ob, q_eq, Nat.reduceEqDiff, Nat.one_ne_zero, ↓reduceIte, eL, nI_add, q_sub, Nat.reduceAdd, Nat.reduceSub, q_gIn, q_cl, hM' _]
      · refine ⟨nI (a 5), M', ?_, ?_, hA⟩
        · simp (disch := omega) only [i_0, i_1, i_2, i_3, i_4, i_5, i_6, i_7, i_8, q_eq, Nat.reduceEqDiff, ↓reduceIte, es, ob, Nat.reduceAdd]
        · simp (disch := omega) only [i_0, i_1, i_2, i_3, i_4, i_5, i_6, i_7, i_8, i_16, hin, ob, q_eq, Nat.reduceEqDiff, Nat.one_ne_zero, ↓reduceIte, eL, nI_add, q_sub, Nat.reduceAdd, Nat.reduceSub, q_gIn, q_cl, hM' _]
      · refine ⟨nI (a 6), M', ?_, ?_, hA⟩
        · simp (disch := omega) only [i_0, i_1, i_2, i_3, i_4, i_5, i_6, i_7, i_8, i_9, q_eq, Nat.reduceEqDiff, ↓reduceIte, es, ob, Nat.reduceAdd]
        · simp (disch := omega) only [i_0, i_1, i_2, i_3, i_4, i_5, i_6, i_7, i_8, i_9, i_16, hin, ob, q_eq, Nat.reduceEqDiff, Nat.one_ne_zero, ↓reduceIte, eL, nI_add, q_sub, Nat.reduceAdd, Nat.reduceSub, q_gIn, q_cl, hM' _]
      · refine ⟨nI (a 7), M', ?_, ?_, hA⟩
        · simp (disch := omega) only [i_0, i_1, i_2, i_3, i_4, i_5, i_6, i_7, i_8, i_9, i_10, q_eq, Nat.reduceEqDiff, ↓reduceIte, es, ob, Nat.reduceAdd]
        · simp (disch := omega) only [i_0, i_1, i_2, i_3, i_4, i_5, i_6, i_7, i_8, i_9, i_10, i_16, hin, ob, q_eq, Nat.reduceEqDiff, Nat.one_ne_zero, ↓reduceIte, eL, nI_add, q_sub, Nat.reduceAdd, Nat.reduceSub, q_gIn, q_cl, hM' _]
      · refine ⟨nI (sumN (tm a (a 3) (a 4) 11) (a 0)), M', ?_, ?_, hA⟩
        · simp (disch := omega) only [i_0, i_1, i_2, i_3, i_4, i_5, i_6, i_7, i_8, i_9, i_10, i_11, q_eq, Nat.reduceEqDiff, ↓reduceIte, e11, ob]
        · simp (disch := omega) only [i_0, i_1, i_2, i_3, i_4, i_5, i_6, i_7, i_8, i_9, i_10, i_11, i_16, hin, ob, q_eq, Nat.reduceEqDiff, Nat.one_ne_zero, ↓reduceIte, eL, ems]
      · refine ⟨nI (sumN (tm a (a 3) (a 4) 12) (a 0)), M', ?_, ?_, hA⟩
        · simp (disch := omega) only [i_0, i_1, i_2, i_3, i_4, i_5, i_6, i_7, i_8, i_9, i_10, i_11, i_12, q_eq, Nat.reduceEqDiff, ↓reduceIte, e12, ob]
        · simp (disch := omega) only [i_0, i_1, i_2, i_3, i_4, i_5, i_6, i_7, i_8, i_9, i_10, i_11, i_12, i_16, hin, ob, q_eq, Nat.reduceEqDiff, Nat.one_ne_zero, ↓reduceIte, eL, ems]
      · refine ⟨nI (sumN (tm a (a 3) (a 4) 13) (a 0)), M', ?_, ?_, hA⟩
        · simp (disch := omega) only [i_0, i_1, i_2, i_3, i_4, i_5, i_6, i_7, i_8, i_9, i_10, i_11, i_12, i_13, q_eq, Nat.reduceEqDiff, ↓reduceIte, e13, ob]
        · simp (disch := omega) only [i_0, i_1, i_2, i_3, i_4, i_5, i_6, i_7, i_8, i_9, i_10, i_11, i_12, i_13, i_16, hin, ob, q_eq, Nat.reduceEqDiff, Nat.one_ne_zero, ↓reduceIte, eL, ems]
      · refine ⟨nI (sumN (tm a (a 3) (a 4) 14) (a 0)), M', ?_, ?_, hA⟩
        · simp (disch := omega) only [i_0, i_1, i_2, i_3, i_4, i_5, i_6, i_7, i_8, i_9, i_10, i_11, i_12, i_13, i_14, q_eq, Nat.reduceEqDiff, ↓reduceIte, e14, ob]
        · simp (disch := omega) only [i_0, i_1, i_2, i_3, i_4, i_5, i_6, i_7, i_8, i_9, i_10, i_11, i_12, i_13, i_14, i_16, hin, ob, q_eq, Nat.reduceEqDiff, Nat.one_ne_zero, ↓reduceIte, eL, ems]
      · refine ⟨M 0 2, M', ?_, ?_, hA⟩
        · simp (disch := omega) only [i_0, i_1, i_2, i_3, i_4, i_5, i_6, i_7, i_8, i_9, i_10, i_11, i_12, i_13, i_14, i_15, q_eq, Nat.reduceEqDiff, ↓reduceIte, e15, ob]
        · simp (disch := omega) only [i_0, i_1, i_2, i_3, i_4, i_5, i_6, i_7, i_8, i_9, i_10, i_11, i_12, i_13, i_14, i_15, i_16, hin, ob, q_eq, Nat.reduceEqDiff, Nat.one_ne_zero, ↓reduceIte, eL, q2]
      · refine ⟨M 0 4, M', ?_, ?_, hA⟩
        · simp (disch := omega) only [i_0, i_1, i_2, i_3, i_4, i_5, i_6, i_7, i_8, i_9, i_10, i_11, i_12, i_13, i_14, i_15, i_16, q_eq, Nat.reduceEqDiff, ↓reduceIte, e16, ob]
        · simp (disch := omega) only [i_0, i_1, i_2, i_3, i_4, i_5, i_6, i_7, i_8, i_9, i_10, i_11, i_12, i_13, i_14, i_15, i_16, hin, ob, q_eq, Nat.reduceEqDiff, Nat.one_ne_zero, ↓reduceIte, eL, q4]
    · refine ⟨-11, M, ?_, ?_, AgM.rf⟩
      · simp (disch := omega) only [i_0, i_1, i_2, i_3, i_4, i_5, i_6, i_7, i_8, i_9, i_10, i_11, i_12, i_13, i_14, i_15, i_16, q_eq, if_neg]
      · rw [i_0, i_16, m_inN hj (by decide) (by decide)]
        simp only [j16, and_false, ↓reduceIte, ob]
theorem J_under (h : RD C M a) (v : Int32) (hN : 3000 ≤ N) : ∃ r M', f_X8_under N C v = some r ∧ f_X9_under N M v = some (r, M') ∧ AgM M M' := by
  obtain ⟨hw, hM, hS, hF, hB, hH, hD⟩ := h
  obtain ⟨M', eL, hA, hL⟩ := m_laysNow hM hw hN
  have hst := hw.2.2.2.2.1
  have hM' := hA.sm hM
  unfold f_X8_under f_X9_under
  rcases sg v with hv | ⟨j, hj, rfl⟩
  · refine ⟨-11, M, ?_, ?_, AgM.rf⟩
    · rw [if_pos hv]
    · rw [i_0, i_500, m_inG hv (by decide), ob, if_pos rfl]
  · rw [i_0, i_500, m_inN hj (by decide) (by decide), ob]
    by_cases j5 : j ≤ 500
    · refine ⟨nI (nuM a (a 3) (a 4) j), M', ?_, ?_, hA⟩
      · simp (disch := omega) only [q_lt, Nat.not_lt_zero, ↓reduceIte, q_le, j5, x_nu hF hB (Or.inl rfl) hw hst, ob]
      · simp (disch := omega) only [j5, Nat.zero_le, and_self, ↓reduceIte, q_nT, eL, ob, m_nu hM' hw hL hst]
    · refine ⟨-11, M, ?_, ?_, AgM.rf⟩
      · simp (disch := omega) only [q_lt, Nat.not_lt_zero, ↓reduceIte, q_le, j5]
      · simp only [j5, and_false, ↓reduceIte]
theorem J_letter (h : RD C M a) (v i : Int32) (hN : 3000 ≤ N) : ∃ r M', f_X8_letter N C v i = some r ∧ f_X9_letter N M v i = some (r, M') ∧ AgM M M' := by
  obtain ⟨hw, hM, hS, hF, hB, hH, hD⟩ := h
  obtain ⟨w0, w1, w2, w3, w4, w5, w6, w7, wl, wp, wn, we⟩ := id hw
  obtain ⟨M', eL, hA, hL⟩ := m_laysNow hM hw hN
  have hst := hw.2.2.2.2.1
  have hM' := hA.sm hM
  unfold f_X8_letter f_X9_letter
  rcases sg v with hv | ⟨w, hwk, rfl⟩
  · refine ⟨-11, M, ?_, ?_, AgM.rf⟩
    · rw [x_hasG hv, ob, i_0, if_pos rfl]
    · rw [m_isWordG hv, ob, i_0, if_pos rfl]
  · rw [x_hasN hS.1.2.2.1 (by omega) hwk, m_isWordN hM w0 hwk, ob, ob]
    by_cases hwd : w < a 0
    · simp only [hwd, ↓reduceIte, i_0, q_nT]
      rcases sg i with hi | ⟨j, hj, rfl⟩
      · refine ⟨-11, M, ?_, ?_, AgM.rf⟩
        · simp (disch := omega) only [ngGe hi, ↓reduceIte]
        · simp (disch := omega) only [ngGe hi, ↓reduceIte]
      · obtain ⟨d1, d2, d3, d4⟩ := hL.2.2.2.2 w hwd
        have b1 := wp w hwd
        rw [x_isHidden hH hw hwd, x_lengthOf (k := 5) (mw := 40) (ml := 12) hS.1 rfl (by decide) w0 hwd, eL]
        simp (disch := omega) only [q_le, Nat.zero_le, ↓reduceIte, ob, i_34, i_13, pk_mul, nI_add, q_gIn, q_cl, d1, i_1, hM' _]
        cases z : hid a w with
        | true =>
          obtain ⟨z1, z2⟩ := foV_t w z
          have hle := sF_le hw
          refine ⟨-12, M', ?_, ?_, hA⟩
          · simp only [↓reduceIte, q_nT]
          · simp (disch := omega) only [z1, q_lt, Nat.not_lt_zero, ↓reduceIte]
        | false =>
          by_cases y : j < a (34 + 13 * w)
          · refine ⟨nI (97 + a (34 + 13 * w + 1 + j)), M', ?_, ?_, hA⟩
            · simp (disch := omega) only [Bool.false_eq_true, ↓reduceIte, q_lt, y]
              rw [x_letterOf (k := 5) (mw := 40) (ml := 12) hS.1 rfl (by decide) (by decide) w0 hwd y b1.1.2, ob]
            · simp (disch := omega) only [foV_f w z, q_lt1n, ↓reduceIte, ↓jn_eq, Nat.not_le.mpr y, q_gIn, q_cl, hM' _, i_97, nI_add]
              rw [Nat.add_comm 97]
          · refine ⟨-14, M', ?_, ?_, hA⟩
            · simp (disch := omega) only [Bool.false_eq_true, ↓reduceIte, q_lt, y]
            · simp (disch := omega) only [foV_f w z, q_lt1n, ↓reduceIte, ↓jn_eq, Nat.not_lt.mp y]
    · refine ⟨-11, M, ?_, ?_, AgM.rf⟩
      · simp only [hwd, ↓reduceIte, i_0]
      · simp only [hwd, ↓reduceIte, i_0]
theorem x_hiddenWord (hS : StC C 4 a) (hF : FmC C a) (hB : BrC C 113 a (a 3) (a 4)) (hH : HdC C a) (hD : ShC C a (a 3) (a 4)) (hw : WF a) {w what : Nat} (hwd : w < a 0) (hwt : what ≤ 9) (hN : 3000 ≤ N) : f_X8_hiddenWord N C (nI w) (nI what) = some (if hid a w = true then (if what = 4 then nI (fo a w / (a 2 + 1)) else if what = 5 then nI (fo a w % (a 2 + 1)) - nI 1 else if what = 8 then nI (nuM a (a 3) (a 4) (sh a (a 3) (a 4) w)) else nI (pop (nuM a (a 3) (a 4) (sh a (a 3) (a 4) w)))) else -14) := by
  have hst := hw.2.2.2.2.1
  have s1 := sh_le hw (m := a 3) hst hwd
  have hle := sF_le hw
  unfold f_X8_hiddenWord
  rw [x_isHidden hH hw hwd, ob, x_shown hD hw hwd, ob, x_formOf hH hw hwd, x_nu hF hB (Or.inl rfl) hw hst (by omega) hN]
  cases z : hid a w with
  | true =>
    obtain ⟨z1, z2⟩ := foV_t w z
    simp (disch := omega) only [↓reduceIte, i_0, i_4, i_5, i_6, i_7, i_8, q_nT, ob, z1, x_nameOf hF.1 hw.2.2.1, x_endingOf hF.1 hw.2.2.1, x_bits (nuM_256 hw), q_eq, Nat.one_ne_zero]
    by_cases y4 : what = 4
    · simp only [y4, ↓reduceIte]
    · by_cases y5 : what = 5
      · simp only [y5, ↓reduceIte, Nat.reduceEqDiff]
      · by_cases y8 : what = 8
        · simp only [y8, ↓reduceIte, Nat.reduceEqDiff]
        · simp only [y4, y5, y8, ↓reduceIte, ite_self]
  | false => simp only [↓reduceIte, i_0, Bool.false_eq_true]
theorem m_hiddenOf (hM : SM M a) (hL : LD M a (a 3) (a 4)) (hw : WF a) {w what : Nat} (hwd : w < a 0) (hwt : what ≤ 9) (hN : 3000 ≤ N) : f_X9_hiddenOf N M (nI w) (nI what) = some (if hid a w = true then (if what = 4 then nI (fo a w / (a 2 + 1)) else if what = 5 then nI (fo a w % (a 2 + 1)) - nI 1 else if what = 8 then nI (nuM a (a 3) (a 4) (sh a (a 3) (a 4) w)) else nI (pop (nuM a (a 3) (a 4) (sh a (a 3) (a 4) w)))) else -14) := by
  have hst := hw.2.2.2.2.1
  have w0 := hw.1
  have w2 := hw.2.2.1
  have s1 := sh_le hw (m := a 3) hst hwd
  have hle := sF_le hw
  obtain ⟨d1, d2, d3, d4⟩ := hL.2.2.2.2 w hwd
  unfold f_X9_hiddenOf
  simp (disch := omega) only [q_gIn, q_cl, d1, d2, m_nu hM hw hL hst, ob]
  cases z : hid a w with
  | true =>
    obtain ⟨z1, z2⟩ := foV_t w z
    simp (disch := omega) only [↓reduceIte, i_0, i_1, i_4, i_5, i_8, z1, q_le, Nat.zero_le, ↓jn_eq, m_each hM, ob, q_nz, m_bits (nuM_256 hw), q_eq]
    by_cases y4 : what = 4
    · simp (disch := omega) only [y4, ↓reduceIte, q_div]
    · by_cases y5 : what = 5
      · rw [q_rem (by omega) (by omega) (by omega)]
        simp only [y5, ↓reduceIte, Nat.reduceEqDiff]
      · by_cases y8 : what = 8
        · simp only [y8, ↓reduceIte, Nat.reduceEqDiff]
        · simp only [y4, y5, y8, ↓reduceIte]
  | false => simp only [foV_f w z, i_0, q_le1n, ↓reduceIte, Bool.false_eq_true]
theorem J_word (h : RD C M a) (v i : Int32) (hN : 3000 ≤ N) : ∃ r M', f_X8_word N C v i = some r ∧ f_X9_word N M v i = some (r, M') ∧ AgM M M' := by
  obtain ⟨hw, hM, hS, hF, hB, hH, hD⟩ := h
  obtain ⟨w0, w1, w2, w3, w4, w5, w6, w7, wl, wp, wn, we⟩ := id hw
  obtain ⟨M', eL, hA, hL⟩ := m_laysNow hM hw hN
  have hst := hw.2.2.2.2.1
  have hM' := hA.sm hM
  unfold f_X8_word f_X9_word
  rcases sg v with hv | ⟨w, hwk, rfl⟩
  · refine ⟨-11, M, ?_, ?_, AgM.rf⟩
    · rw [x_hasG hv, ob, i_0, if_pos rfl]
    · rw [m_isWordG hv, ob, i_0, if_pos rfl]
  · rw [x_hasN hS.1.2.2.1 (by omega) hwk, m_isWordN hM w0 hwk, ob, ob]
    by_cases hwd : w < a 0
    · simp only [hwd, ↓reduceIte, i_0, i_9, q_nT]
      rcases sg i with hi | ⟨j, hj, rfl⟩
      · refine ⟨-11, M, ?_, ?_, AgM.rf⟩
        · simp (disch := omega) only [ngLt hi, ↓reduceIte]
        · rw [m_inG hi (by decide), ob, if_pos rfl]
      · rw [m_inN hj (by decide) (by decide), ob]
        rw [if_neg (show ¬ nI j < nI 0 from nI_pos hj)]
        by_cases j9 : j ≤ 9
        · rw [if_pos ((nI_leI hj (by decide)).mpr j9)]
          obtain ⟨d1, d2, d3, d4⟩ := hL.2.2.2.2 w hwd
          have b1 := wp w hwd
          have e0 := x_lengthOf (N := N) (k := 5) (mw := 40) (ml := 12) hS.1 rfl (by decide) w0 hwd
          have e1 := x_ownWidth (N := N) hH hw hwd
          have e2 := x_shown (N := N) hD hw hwd
          have e3 := x_isHidden (N := N) hH hw hwd
          have e6 : f_X4_lineOf N C (nI w) = some (nI (lno (sh a (a 3) (a 4)) (a 6) (a 7) w)) := by
            unfold f_X4_lineOf
            rw [x_at (k := 126) (n := 40) rfl (by omega) (by decide), ob, (hD.2.1 w hwd).2.1]
          have e7 : f_X4_placeOf N C (nI w) = some (nI (plc (sh a (a 3) (a 4)) (a 6) (a 7) w)) := by
            unfold f_X4_placeOf
            rw [x_at (k := 128) (n := 40) rfl (by omega) (by decide), ob, (hD.2.1 w hwd).2.2]
          obtain ⟨R, eh, mh⟩ : ∃ R, f_X8_hiddenWord N C (nI w) (nI j) = some R ∧ f_X9_hiddenOf N M' (nI w) (nI j) = some R := ⟨_, x_hiddenWord (N := N) hS hF hB hH hD hw hwd j9 hN, m_hiddenOf (N := N) hM' hL hw hwd j9 hN⟩
          simp only [j9, Nat.zero_le, and_self, ↓reduceIte, q_nT, eL, ob]
          by_cases j0 : j = 0
          · subst j0
            refine ⟨nI (a (34 + 13 * w)), M', ?_, ?_, hA⟩
            · simp only [↓reduceIte, e0, ob]
            · simp (disch := omega) only [↓reduceIte, i_34, i_13, pk_mul, nI_add, q_gIn, q_cl, hM' _]
          · by_cases j1 : j = 1
            · subst j1
              refine ⟨nI (wd a (34 + 13 * w)), M', ?_, ?_, hA⟩
              · simp only [↓reduceIte, q_nT, i_1, e1, ob]
              · simp (disch := omega) only [↓reduceIte, q_nT, i_1, i_34, i_13, pk_mul, nI_add]
                rw [m_widthAt hM' wl (by omega) b1.2 hN, ob]
            · by_cases j2 : j = 2
              · subst j2
                refine ⟨nI (sh a (a 3) (a 4) w), M', ?_, ?_, hA⟩
                · simp (disch := omega) only [↓reduceIte, q_eq, Nat.reduceEqDiff, i_1, i_2, e2, ob]
                · simp (disch := omega) only [↓reduceIte, q_eq, Nat.reduceEqDiff, i_1, i_2, q_gIn, q_cl, d2]
              · by_cases j3 : j = 3
                · subst j3
                  refine ⟨nI (if hid a w = true then 1 else 0), M', ?_, ?_, hA⟩
                  · simp (disch := omega) only [↓reduceIte, q_eq, Nat.reduceEqDiff, i_1, i_2, i_3, e3, ob, ↓jn_eq]
                    cases z : hid a w with
                    | true => simp only [↓reduceIte, q_nT]
                    | false => simp only [Bool.false_eq_true, ↓reduceIte]
                  · simp (disch := omega) only [↓reduceIte, q_eq, Nat.reduceEqDiff, i_1, i_2, i_3, ↓jn_eq, q_gIn, q_cl, d1]
                    cases z : hid a w with
                    | true =>
                      obtain ⟨z1, z2⟩ := foV_t w z
                      have hle := sF_le hw
                      simp (disch := omega) only [z1, q_le, Nat.zero_le, ↓reduceIte]
                    | false => simp only [foV_f w z, q_le1n, ↓reduceIte, Bool.false_eq_true]
                · by_cases j6 : j = 6
                  · subst j6
                    refine ⟨nI (lno (sh a (a 3) (a 4)) (a 6) (a 7) w), M', ?_, ?_, hA⟩
                    · simp (disch := omega) only [↓reduceIte, q_eq, Nat.reduceEqDiff, i_1, i_2, i_3, i_4, i_5, i_6, e6, ob]
                    · simp (disch := omega) only [↓reduceIte, q_eq, Nat.reduceEqDiff, i_1, i_2, i_3, i_4, i_5, i_6, q_gIn, q_cl, d3]
                  · by_cases j7 : j = 7
                    · subst j7
                      refine ⟨nI (plc (sh a (a 3) (a 4)) (a 6) (a 7) w), M', ?_, ?_, hA⟩
                      · simp (disch := omega) only [↓reduceIte, q_eq, Nat.reduceEqDiff, i_1, i_2, i_3, i_4, i_5, i_6, i_7, e7, ob]
                      · simp (disch := omega) only [↓reduceIte, q_eq, Nat.reduceEqDiff, i_1, i_2, i_3, i_4, i_5, i_6, i_7, q_gIn, q_cl, d4]
                    · refine ⟨R, M', ?_, ?_, hA⟩
                      · simp (disch := omega) only [↓reduceIte, q_eq, j0, j1, j2, j3, j6, j7, i_1, i_2, i_3, i_4, i_5, i_6, i_7, eh, ob, ite_self]
                      · simp (disch := omega) only [↓reduceIte, q_eq, j0, j1, j2, j3, j6, j7, i_1, i_2, i_3, i_4, i_5, i_6, i_7, mh, ob, ite_self]
        · refine ⟨-11, M, ?_, ?_, AgM.rf⟩
          · rw [if_neg (fun q => j9 ((nI_leI hj (by decide)).mp q))]
          · simp only [j9, and_false, ↓reduceIte]
    · refine ⟨-11, M, ?_, ?_, AgM.rf⟩
      · simp only [hwd, ↓reduceIte, i_0]
      · simp only [hwd, ↓reduceIte, i_0]
end JJ2
