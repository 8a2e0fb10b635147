/-! ===== the class's answers by the spec ===== -/
def RC (C : kS) (a : kA) : Prop := WF a ∧ StC C 4 a ∧ DvC C a
section VV
variable {C : kS} {a : kA} {N : Nat}
theorem V_c0 (h : RC C a) : f_X8_count N C 0 = some (nI (a 0)) := by
  obtain ⟨hw, hS, hF, hB, hH, hD⟩ := h
  have e0 := (x_size (N := N) hS)
  unfold f_X8_count
  simp (disch := omega) only [i_0, ↓reduceIte, e0.1, ob]
theorem V_c1 (h : RC C a) (hN : 3000 ≤ N) : f_X8_count N C 1 = some (nI (sumN (tm a (a 3) (a 4) 1) (a 0))) := by
  obtain ⟨hw, hS, hF, hB, hH, hD⟩ := h
  have e0 := (x_size (N := N) hS)
  have e1 := x_bars0 (N := N) hH hw (a 3) (a 4) hN
  unfold f_X8_count
  simp (disch := omega) only [i_0, i_1, q_eq, Nat.reduceEqDiff, Nat.one_ne_zero, ↓reduceIte, e0.1, ob, e1]
theorem V_c2 (h : RC C a) : f_X8_count N C 2 = some (nI (lnN a (a 3) (a 4))) := by
  obtain ⟨hw, hS, hF, hB, hH, hD⟩ := h
  have e2 : f_X4_lineCount N C = some (nI (lnN a (a 3) (a 4))) := by unfold f_X4_lineCount; rw [hD.1]; rfl
  unfold f_X8_count
  simp (disch := omega) only [i_0, i_1, i_2, q_eq, Nat.reduceEqDiff, ↓reduceIte, e2, ob]
theorem V_c3 (h : RC C a) : f_X8_count N C 3 = some (nI (a 1)) := by
  obtain ⟨hw, hS, hF, hB, hH, hD⟩ := h
  have e0 := (x_size (N := N) hS)
  unfold f_X8_count
  simp (disch := omega) only [i_0, i_1, i_2, i_3, q_eq, Nat.reduceEqDiff, ↓reduceIte, e0.2.1, ob]
theorem V_c4 (h : RC C a) : f_X8_count N C 4 = some (nI (a 2)) := by
  obtain ⟨hw, hS, hF, hB, hH, hD⟩ := h
  have e0 := (x_size (N := N) hS)
  unfold f_X8_count
  simp (disch := omega) only [i_0, i_1, i_2, i_3, i_4, q_eq, Nat.reduceEqDiff, ↓reduceIte, e0.2.2, ob]
theorem V_c5 (h : RC C a) : f_X8_count N C 5 = some (nI (sF a)) := by
  obtain ⟨hw, hS, hF, hB, hH, hD⟩ := h
  have e5 : f_X1_size N C = some (nI (sF a)) := by unfold f_X1_size; rw [hF.2.1]
  unfold f_X8_count
  simp (disch := omega) only [i_0, i_1, i_2, i_3, i_4, i_5, q_eq, Nat.reduceEqDiff, ↓reduceIte, e5, ob]
theorem V_cs (h : RC C a) {k : Nat} (hk : k < 5) : f_X8_count N C (nI (6 + k)) = some (nI (a (3 + k))) := by
  obtain ⟨hw, hS, hF, hB, hH, hD⟩ := h
  have es : ∀ k, k < 5 → f_X3_at N C 22 (nI k) = some (nI (a (3 + k))) := fun k hk => by rw [x_at (k := 22) (n := 5) rfl hk (by decide), hS.2.2.2.2 k hk]
  unfold f_X8_count
  obtain rfl | rfl | rfl | rfl | rfl : k = 0 ∨ k = 1 ∨ k = 2 ∨ k = 3 ∨ k = 4 := by omega
  · simp (disch := omega) only [i_0, i_1, i_2, i_3, i_4, i_5, i_6, q_eq, Nat.reduceEqDiff, ↓reduceIte, es, ob, Nat.reduceAdd]
  · simp (disch := omega) only [i_0, i_1, i_2, i_3, i_4, i_5, i_6, i_7, q_eq, Nat.reduceEqDiff, ↓reduceIte, es, ob, Nat.reduceAdd]
  · simp (disch := omega) only [i_0, i_1, i_2, i_3, i_4, i_5, i_6, i_7, i_8, q_eq, Nat.reduceEqDiff, ↓reduceIte, es, ob, Nat.reduceAdd]
  · simp (disch := omega) only [i_0, i_1, i_2, i_3, i_4, i_5, i_6, i_7, i_8, i_9, q_eq, Nat.reduceEqDiff, ↓reduceIte, es, ob, Nat.reduceAdd]
  · simp (disch := omega) only [i_0, i_1, i_2, i_3, i_4, i_5, i_6, i_7, i_8, i_9, i_10, q_eq, Nat.reduceEqDiff, ↓reduceIte, es, ob, Nat.reduceAdd]
theorem V_c11 (h : RC C a) (hN : 3000 ≤ N) : f_X8_count N C 11 = some (nI (sumN (tm a (a 3) (a 4) 11) (a 0))) := by
  obtain ⟨hw, hS, hF, hB, hH, hD⟩ := h
  have hst := hw.2.2.2.2.1
  have e11 := x_betrayed (N := N) hS hF hH hB (Or.inl rfl) hw hst hN
  unfold f_X8_count
  simp (disch := omega) only [i_0, i_1, i_2, i_3, i_4, i_5, i_6, i_7, i_8, i_9, i_10, i_11, q_eq, Nat.reduceEqDiff, ↓reduceIte, e11, ob]
theorem V_c12 (h : RC C a) (hN : 3000 ≤ N) : f_X8_count N C 12 = some (nI (sumN (tm a (a 3) (a 4) 12) (a 0))) := by
  obtain ⟨hw, hS, hF, hB, hH, hD⟩ := h
  have e12 := x_sumW (N := N) hS hH hB (Or.inl rfl) hw hN
  unfold f_X8_count
  simp (disch := omega) only [i_0, i_1, i_2, i_3, i_4, i_5, i_6, i_7, i_8, i_9, i_10, i_11, i_12, q_eq, Nat.reduceEqDiff, ↓reduceIte, e12, ob]
theorem V_c13 (h : RC C a) (hN : 3000 ≤ N) : f_X8_count N C 13 = some (nI (sumN (tm a (a 3) (a 4) 13) (a 0))) := by
  obtain ⟨hw, hS, hF, hB, hH, hD⟩ := h
  have hst := hw.2.2.2.2.1
  have e13 := x_gaps (N := N) hS hF hH hB hw hst hN
  unfold f_X8_count
  simp (disch := omega) only [i_0, i_1, i_2, i_3, i_4, i_5, i_6, i_7, i_8, i_9, i_10, i_11, i_12, i_13, q_eq, Nat.reduceEqDiff, ↓reduceIte, e13, ob]
theorem V_c14 (h : RC C a) (hN : 3000 ≤ N) : f_X8_count N C 14 = some (nI (sumN (tm a (a 3) (a 4) 14) (a 0))) := by
  obtain ⟨hw, hS, hF, hB, hH, hD⟩ := h
  have hst := hw.2.2.2.2.1
  have e14 := x_diff (N := N) hS hH hD hw hst hN
  unfold f_X8_count
  simp (disch := omega) only [i_0, i_1, i_2, i_3, i_4, i_5, i_6, i_7, i_8, i_9, i_10, i_11, i_12, i_13, i_14, q_eq, Nat.reduceEqDiff, ↓reduceIte, e14, ob]
theorem V_c17 : f_X8_count N C 17 = some (-11) := by
  unfold f_X8_count
  simp (config := { decide := true }) only [↓reduceIte]
/-- the first of the word's questions -/
theorem V_wordP {w : Nat} (h : RC C a) (hwd : w < a 0) {j : Nat} (hj : j ≤ 9) (hN : 3000 ≤ N) : f_X8_word N C (nI w) (nI j) = some (if j = 0 then nI (a (34 + 13 * w)) else if j = 1 then nI (wd a (34 + 13 * w)) else if j = 2 then nI (sh a (a 3) (a 4) w) else if j = 3 then nI (if hid a w = true then 1 else 0) else if j = 6 then nI (lno (sh a (a 3) (a 4)) (a 6) (a 7) w) else if j = 7 then nI (plc (sh a (a 3) (a 4)) (a 6) (a 7) w) else if hid a w = true then (if j = 4 then nI (fo a w / (a 2 + 1)) else if j = 5 then nI (fo a w % (a 2 + 1)) - nI 1 else if j = 8 then nI (nuM a (a 3) (a 4) (sh a (a 3) (a 4) w)) else nI (pop (nuM a (a 3) (a 4) (sh a (a 3) (a 4) w)))) else -14) := by
  obtain ⟨hw, hS, hF, hB, hH, hD⟩ := h
  obtain ⟨w0, w1, w2, w3, w4, w5, w6, w7, wl, wp, wn, we⟩ := id hw
  have hst := hw.2.2.2.2.1
  have hwk : w < 2147483648 := by omega
  have hj2 : j < 2147483648 := by omega
  unfold f_X8_word
  rw [x_hasN hS.1.2.2.1 (by omega) hwk, ob]
  simp only [hwd, ↓reduceIte, i_0, i_9, q_nT]
  have e0 := x_lengthOf (N := N) (k := 5) (mw := 40) (ml := 12) hS.1 rfl (by decide) w0 hwd
  have e1 := x_ownWidth (N := N) hH hw hwd
  have e2 := x_shown (N := N) hD hw hwd
  have e3 := x_isHidden (N := N) hH hw hwd
  have e6 : f_X4_lineOf N C (nI w) = some (nI (lno (sh a (a 3) (a 4)) (a 6) (a 7) w)) := by
    unfold f_X4_lineOf
    rw [x_at (k := 126) (n := 40) rfl (by omega) (by decide), ob, (hD.2.1 w hwd).2.1]
  have e7 : f_X4_placeOf N C (nI w) = some (nI (plc (sh a (a 3) (a 4)) (a 6) (a 7) w)) := by
    unfold f_X4_placeOf
    rw [x_at (k := 128) (n := 40) rfl (by omega) (by decide), ob, (hD.2.1 w hwd).2.2]
  have eh := x_hiddenWord (N := N) hS hF hB hH hD hw hwd hj hN
  rw [if_neg (show ¬ nI j < nI 0 from nI_pos hj2), if_pos ((nI_leI hj2 (by decide)).mpr hj)]
  obtain rfl | rfl | rfl | rfl | rfl | rfl | rfl | rfl | rfl | rfl : j = 0 ∨ j = 1 ∨ j = 2 ∨ j = 3 ∨ j = 4 ∨ j = 5 ∨ j = 6 ∨ j = 7 ∨ j = 8 ∨ j = 9 := by omega
  · simp only [↓reduceIte, e0, ob]
  · simp only [↓reduceIte, q_nT, i_1, e1, ob, Nat.one_ne_zero]
  · simp (disch := omega) only [↓reduceIte, q_eq, Nat.reduceEqDiff, i_1, i_2, e2, ob]
  · simp (disch := omega) only [↓reduceIte, q_eq, Nat.reduceEqDiff, i_1, i_2, i_3, e3, ob, ↓jn_eq]
    cases z : hid a w with
    | true => simp only [↓reduceIte, q_nT]
    | false => simp only [Bool.false_eq_true, ↓reduceIte]
  · simp (disch := omega) only [↓reduceIte, q_eq, Nat.reduceEqDiff, i_1, i_2, i_3, i_4, i_5, i_6, i_7, eh, ob, ite_self]
  · simp (disch := omega) only [↓reduceIte, q_eq, Nat.reduceEqDiff, i_1, i_2, i_3, i_4, i_5, i_6, i_7, eh, ob, ite_self]
  · simp (disch := omega) only [↓reduceIte, q_eq, Nat.reduceEqDiff, i_1, i_2, i_3, i_4, i_5, i_6, e6, ob]
  · simp (disch := omega) only [↓reduceIte, q_eq, Nat.reduceEqDiff, i_1, i_2, i_3, i_4, i_5, i_6, i_7, e7, ob]
  · simp (disch := omega) only [↓reduceIte, q_eq, Nat.reduceEqDiff, i_1, i_2, i_3, i_4, i_5, i_6, i_7, eh, ob, ite_self]
  · simp (disch := omega) only [↓reduceIte, q_eq, Nat.reduceEqDiff, i_1, i_2, i_3, i_4, i_5, i_6, i_7, eh, ob, ite_self]
theorem V_wordX (h : RC C a) {w : Nat} (hw2 : w < 2147483648) (hwd : a 0 ≤ w) (j : Int32) : f_X8_word N C (nI w) j = some (-11) := by
  obtain ⟨hw, hS, -⟩ := h
  have w0 := hw.1
  unfold f_X8_word
  rw [x_hasN hS.1.2.2.1 (by omega) hw2, ob, if_neg (show ¬ w < a 0 by omega), i_0, if_pos rfl]
theorem V_wordM (h : RC C a) (j : Int32) : f_X8_word N C (-1) j = some (-11) := by
  unfold f_X8_word
  rw [x_hasG (by decide), ob, i_0, if_pos rfl]
theorem V_letter {w j : Nat} (h : RC C a) (hwd : w < a 0) (hj : j < 2147483648) (hN : 3000 ≤ N) : f_X8_letter N C (nI w) (nI j) = some (if hid a w = true then -12 else if j < a (34 + 13 * w) then nI (97 + a (34 + 13 * w + 1 + j)) else -14) := by
  obtain ⟨hw, hS, hF, hB, hH, hD⟩ := h
  obtain ⟨w0, w1, w2, w3, w4, w5, w6, w7, wl, wp, wn, we⟩ := id hw
  have hwk : w < 2147483648 := by omega
  have b1 := wp w hwd
  unfold f_X8_letter
  rw [x_hasN hS.1.2.2.1 (by omega) hwk, ob]
  simp only [hwd, ↓reduceIte, i_0, q_nT]
  rw [x_isHidden hH hw hwd, x_lengthOf (k := 5) (mw := 40) (ml := 12) hS.1 rfl (by decide) w0 hwd]
  simp (disch := omega) only [q_le, Nat.zero_le, ↓reduceIte, ob]
  cases z : hid a w with
  | true => simp only [↓reduceIte, q_nT]
  | false =>
    by_cases y : j < a (34 + 13 * w)
    · simp (disch := omega) only [Bool.false_eq_true, ↓reduceIte, q_lt, y]
      rw [x_letterOf (k := 5) (mw := 40) (ml := 12) hS.1 rfl (by decide) (by decide) w0 hwd y b1.1.2, ob]
    · simp (disch := omega) only [Bool.false_eq_true, ↓reduceIte, q_lt, y]
theorem V_line {k j : Nat} (h : RC C a) (hkl : k < lnN a (a 3) (a 4)) (hj : j ≤ 4) (hN : 3000 ≤ N) : f_X8_line N C (nI k) (nI j) = some (if j = 0 then nI (fsL a (a 3) (a 4) k) else if j = 1 then nI (bhL a (a 3) (a 4) k - fsL a (a 3) (a 4) k) else if j = 2 then nI (lsum a (a 3) (a 4) k 2 (a 0)) else if j = 3 then nI (a 7 - lsum a (a 3) (a 4) k 2 (a 0)) else nI (lsum a (a 3) (a 4) k 4 (a 0))) := by
  obtain ⟨hw, hS, hF, hB, hH, hD⟩ := h
  have hst := hw.2.2.2.2.1
  have b1 := lnN_le hw (m := a 3) hst
  have w0 := hw.1
  have w7 := hw.2.2.2.2.2.2.2.1
  have hk : k < 2147483648 := by omega
  unfold f_X8_line
  rw [x_hasLineN hD hw hst hk, ob]
  obtain ⟨f1, f2⟩ := x_lineFacts (N := N) hS hD hw hkl
  have f3 := bhL_b hD hkl
  have hWd := x_lineW hS hD hw hkl hN
  have hBr := x_lineB hH hD hw hkl hN
  rw [f1, f2]
  have hls : ∀ {what : Nat}, lsum a (a 3) (a 4) k what (a 0) ≤ 157 * a 0 := fun {what} => lsum_le hw hst _ (Nat.le_refl _)
  have e23 : C 23 4 = nI (a 7) := hS.2.2.2.2 4 (by decide)
  simp only [hkl, Nat.not_le.mpr hkl, ↓reduceIte, i_0, i_1, i_2, i_3, i_4, q_nT, ob, hWd, hBr]
  rw [x_at (k := 22) (n := 5) rfl (by decide) (by decide), e23]
  have hl2 := hls (what := 2)
  obtain rfl | rfl | rfl | rfl | rfl : j = 0 ∨ j = 1 ∨ j = 2 ∨ j = 3 ∨ j = 4 := by omega
  · simp only [↓reduceIte]
  · simp (disch := omega) only [q_eq, Nat.one_ne_zero, ↓reduceIte, q_sub]
  · simp (disch := omega) only [q_eq, Nat.reduceEqDiff, ↓reduceIte, ob]
  · simp (disch := omega) only [q_eq, Nat.reduceEqDiff, ↓reduceIte, ob, jn_eq]
    by_cases z : lsum a (a 3) (a 4) k 2 (a 0) < a 7
    · rw [q_sub (by omega)]
      simp (disch := omega) only [q_lt]
      rw [if_pos (by omega)]
    · have e : a 7 - lsum a (a 3) (a 4) k 2 (a 0) = 0 := by omega
      have z2 : ¬ nI 0 < nI (a 7) - nI (lsum a (a 3) (a 4) k 2 (a 0)) := by
        intro q
        have q2 := (Int32.lt_iff_toInt_lt).mp q
        rw [Int32.toInt_sub, nI_toInt (by omega), nI_toInt (by omega), nI_toInt (by omega), Int.bmod_def] at q2
        omega
      rw [if_neg z2, e]
  · simp (disch := omega) only [q_eq, Nat.reduceEqDiff, ↓reduceIte, ob]
theorem V_lineX {k : Nat} (h : RC C a) (hk : k < 2147483648) (hkl : lnN a (a 3) (a 4) ≤ k) (j : Int32) : f_X8_line N C (nI k) j = some (-11) := by
  obtain ⟨hw, hS, hF, hB, hH, hD⟩ := h
  have hst := hw.2.2.2.2.1
  unfold f_X8_line
  rw [x_hasLineN hD hw hst hk, ob, if_neg (Nat.not_lt.mpr hkl), i_0, if_pos rfl]
theorem V_again {k : Nat} (h : RC C a) (hkl : k < lnN a (a 3) (a 4)) : f_X8_widthAgain N C (nI k) = some (nI (plc (sh a (a 3) (a 4)) (a 6) (a 7) (bhL a (a 3) (a 4) k - 1) + sh a (a 3) (a 4) (bhL a (a 3) (a 4) k - 1))) := by
  obtain ⟨hw, hS, hF, hB, hH, hD⟩ := h
  have hst := hw.2.2.2.2.1
  have b1 := lnN_le hw (m := a 3) hst
  have w0 := hw.1
  have hk : k < 2147483648 := by omega
  unfold f_X8_widthAgain
  rw [x_hasLineN hD hw hst hk, ob]
  obtain ⟨f1, f2⟩ := x_lineFacts (N := N) hS hD hw hkl
  have f3 := bhL_b hD hkl
  simp (disch := omega) only [hkl, ↓reduceIte, i_0, i_1, q_nT, f2, ob, q_sub, x_shown hD hw]
  unfold f_X4_placeOf
  rw [x_at (k := 128) (n := 40) rfl (by omega) (by decide), ob, (hD.2.1 _ (by omega)).2.2, ob, nI_add]
end VV
