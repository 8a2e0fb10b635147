/-! ===== both programs' answers: lines ===== -/
section JJ1
variable {C M : kS} {a : kA} {N : Nat}
theorem x_lineW {m st l : Nat} (hS : StC C 4 a) (hD : ShC C a m st) (hw : WF a) (hl : l < lnN a m st) (hN : 3000 ≤ N) : f_X4_widthBetween N C (nI (fsL a m st l)) (nI (bhL a m st l)) = some (nI (lsum a m st l 2 (a 0))) := by
  have h1 := bhL_b hD hl
  have h2 := x_widthB (N := N) (S := fun i => lsum a m st l 2 (fsL a m st l + i)) hS hD hw (b := fsL a m st l) (n := bhL a m st l - fsL a m st l) (lsum_lo hD hl _ (Nat.le_refl _)) (by omega) (fun i hi => by
    rw [lsum_in hD hl hi, if_pos rfl]) hN
  rw [lsum_all hD hl]
  simp only [show fsL a m st l + (bhL a m st l - fsL a m st l) = bhL a m st l by omega] at h2
  exact h2
theorem x_lineB {m st l : Nat} (hH : HdC C a) (hD : ShC C a m st) (hw : WF a) (hl : l < lnN a m st) (hN : 3000 ≤ N) : f_X4_barsBetween N C (nI (fsL a m st l)) (nI (bhL a m st l)) = some (nI (lsum a m st l 4 (a 0))) := by
  have h1 := bhL_b hD hl
  have h2 := x_bars (N := N) (S := fun i => lsum a m st l 4 (fsL a m st l + i)) hH hw (b := fsL a m st l) (n := bhL a m st l - fsL a m st l) (lsum_lo hD hl _ (Nat.le_refl _)) (by omega) (fun i hi => by
    rw [lsum_in hD hl hi, if_neg (by decide), if_neg (by decide)]) hN
  rw [lsum_all hD hl]
  simp only [show fsL a m st l + (bhL a m st l - fsL a m st l) = bhL a m st l by omega] at h2
  exact h2
theorem J_line (h : RD C M a) (l w : Int32) (hN : 3000 ≤ N) : ∃ r M', f_X8_line N C l w = some r ∧ f_X9_line N M l w = some (r, M') ∧ AgM M M' := by
  obtain ⟨hw, hM, hS, hF, hB, hH, hD⟩ := h
  obtain ⟨M', eL, hA, hL⟩ := m_laysNow hM hw hN
  have hst := hw.2.2.2.2.1
  have hM' := hA.sm hM
  have b1 := lnN_le hw (m := a 3) hst
  have w0 := hw.1
  have w7 := hw.2.2.2.2.2.2.2.1
  have e14 : M' 0 14 = nI (lnN a (a 3) (a 4)) := hL.2.2.2.1
  unfold f_X8_line f_X9_line
  rw [eL, ob]
  rcases sg l with hl | ⟨k, hk, rfl⟩
  · refine ⟨-11, M', ?_, ?_, hA⟩
    · rw [x_hasLineG hl, ob, i_0, if_pos rfl]
    · rw [if_pos hl]
  · rw [x_hasLineN hD hw hst hk, ob, e14]
    simp (disch := omega) only [q_neg, ↓reduceIte, q_le]
    by_cases hkl : k < lnN a (a 3) (a 4)
    · obtain ⟨f1, f2⟩ := x_lineFacts (N := N) hS hD hw hkl
      have f3 := bhL_b hD hkl
      have hWd := x_lineW hS hD hw hkl hN
      have hBr := x_lineB hH hD hw hkl hN
      rw [f1, f2]
      have hls : ∀ {what : Nat}, lsum a (a 3) (a 4) k what (a 0) ≤ 157 * a 0 := fun {what} => lsum_le hw hst _ (Nat.le_refl _)
      have e23 : C 23 4 = nI (a 7) := hS.2.2.2.2 4 (by decide)
      simp only [hkl, Nat.not_le.mpr hkl, ↓reduceIte, i_0, i_1, i_2, i_3, i_4, q_nT, ob, hWd, hBr]
      rw [x_at (k := 22) (n := 5) rfl (by decide) (by decide), e23]
      rcases sg w with hv | ⟨j, hj, rfl⟩
      · refine ⟨-11, M', ?_, ?_, hA⟩
        · simp (disch := omega) only [ngE hv, ↓reduceIte, ob]
        · rw [m_inG hv (by decide), ob, if_pos rfl]
      · rw [m_inN hj (by decide) (by decide), ob]
        by_cases j4 : j ≤ 4
        · simp only [j4, Nat.zero_le, and_self, ↓reduceIte, q_nT]
          by_cases j0 : j = 0
          · subst j0
            refine ⟨nI (fsL a (a 3) (a 4) k), M', ?_, ?_, hA⟩
            · simp only [↓reduceIte]
            · rw [m_lineSum (what := 0) hM' hw hL hst (by omega) (by omega) hN]
              have f4 : fst (isL a (a 3) (a 4) k) (a 0) < a 0 := by
                have f5 : fsL a (a 3) (a 4) k = fst (isL a (a 3) (a 4) k) (a 0) := rfl
                omega
              simp (disch := omega) only [q_eq, ↓reduceIte, ob, f4, Nat.reduceEqDiff]
              rfl
          · by_cases j1 : j = 1
            · subst j1
              refine ⟨nI (bhL a (a 3) (a 4) k - fsL a (a 3) (a 4) k), M', ?_, ?_, hA⟩
              · simp (disch := omega) only [q_eq, Nat.one_ne_zero, ↓reduceIte, q_sub]
              · rw [m_lineSum (what := 1) hM' hw hL hst (by omega) (by omega) hN]
                simp (disch := omega) only [q_eq, ↓reduceIte, ob, Nat.reduceEqDiff, Nat.one_ne_zero]
                rw [lsum_all hD hkl]
                have f4 := lsum_1 hD hkl (bhL a (a 3) (a 4) k - fsL a (a 3) (a 4) k) (Nat.le_refl _)
                rw [show fsL a (a 3) (a 4) k + (bhL a (a 3) (a 4) k - fsL a (a 3) (a 4) k) = bhL a (a 3) (a 4) k by omega] at f4
                rw [f4]
            · by_cases j2 : j = 2
              · subst j2
                refine ⟨nI (lsum a (a 3) (a 4) k 2 (a 0)), M', ?_, ?_, hA⟩
                · simp (disch := omega) only [q_eq, Nat.reduceEqDiff, ↓reduceIte, ob]
                · rw [m_lineSum (what := 2) hM' hw hL hst (by omega) (by omega) hN]
                  simp (disch := omega) only [q_eq, ↓reduceIte, ob, Nat.reduceEqDiff]
              · by_cases j3 : j = 3
                · subst j3
                  refine ⟨if nI 0 < nI (a 7) - nI (lsum a (a 3) (a 4) k 2 (a 0)) then nI (a 7) - nI (lsum a (a 3) (a 4) k 2 (a 0)) else nI 0, M', ?_, ?_, hA⟩
                  · simp (disch := omega) only [q_eq, Nat.reduceEqDiff, ↓reduceIte, ob, jn_eq]
                  · rw [m_lineSum (what := 2) hM' hw hL hst (by omega) (by omega) hN, i_7]
                    simp (disch := omega) only [q_eq, ↓reduceIte, ob, Nat.reduceEqDiff, ↓jn_eq, q_gIn, q_cl, hM' _]
                    simp only [← i_0]
                    exact d_max (F := fun x => some (x, M'))
                · have j5 : j = 4 := by omega
                  subst j5
                  refine ⟨nI (lsum a (a 3) (a 4) k 4 (a 0)), M', ?_, ?_, hA⟩
                  · simp (disch := omega) only [q_eq, Nat.reduceEqDiff, ↓reduceIte, ob]
                  · rw [m_lineSum (what := 4) hM' hw hL hst (by omega) (by omega) hN]
                    simp (disch := omega) only [q_eq, ↓reduceIte, ob, Nat.reduceEqDiff]
        · refine ⟨-11, M', ?_, ?_, hA⟩
          · simp (disch := omega) only [q_eq, if_neg, ob]
          · simp only [j4, and_false, ↓reduceIte, ob]
    · refine ⟨-11, M', ?_, ?_, hA⟩
      · simp only [hkl, ↓reduceIte, i_0]
      · simp only [Nat.not_lt.mp hkl, ↓reduceIte]
theorem J_again (h : RD C M a) (l : Int32) (hN : 3000 ≤ N) : ∃ r M', f_X8_widthAgain N C l = some r ∧ f_X9_widthAgain N M l = some (r, M') ∧ AgM M M' := by
  obtain ⟨hw, hM, hS, hF, hB, hH, hD⟩ := h
  obtain ⟨M', eL, hA, hL⟩ := m_laysNow hM hw hN
  have hst := hw.2.2.2.2.1
  have hM' := hA.sm hM
  have b1 := lnN_le hw (m := a 3) hst
  have w0 := hw.1
  have e14 : M' 0 14 = nI (lnN a (a 3) (a 4)) := hL.2.2.2.1
  unfold f_X8_widthAgain f_X9_widthAgain
  rw [eL, ob]
  rcases sg l with hl | ⟨k, hk, rfl⟩
  · refine ⟨-11, M', ?_, ?_, hA⟩
    · rw [x_hasLineG hl, ob, i_0, if_pos rfl]
    · rw [if_pos hl]
  · rw [x_hasLineN hD hw hst hk, ob, e14]
    simp (disch := omega) only [q_neg, ↓reduceIte, q_lt]
    by_cases hkl : k < lnN a (a 3) (a 4)
    · obtain ⟨f1, f2⟩ := x_lineFacts (N := N) hS hD hw hkl
      have f3 := bhL_b hD hkl
      refine ⟨nI (plc (sh a (a 3) (a 4)) (a 6) (a 7) (bhL a (a 3) (a 4) k - 1)) + nI (sh a (a 3) (a 4) (bhL a (a 3) (a 4) k - 1)), M', ?_, ?_, hA⟩
      · simp (disch := omega) only [hkl, ↓reduceIte, i_0, i_1, q_nT, f2, ob, q_sub, x_shown hD hw]
        unfold f_X4_placeOf
        rw [x_at (k := 128) (n := 40) rfl (by omega) (by decide), ob, (hD.2.1 _ (by omega)).2.2, ob]
      · simp only [hkl, ↓reduceIte, ↓jn_eq, i_0]
        have hinv := lpE (N := N) (fun n x y => lp_X9_widthAgain_23 N (nI k) M' (fun x5 => gIn x5 40 (gIn x5 40 (some (M' 10 x5.toNatClampNeg + M' 8 x5.toNatClampNeg, M')))) n x y) (fun w => if w ≤ fsL a (a 3) (a 4) k then 0 else if w ≤ bhL a (a 3) (a 4) k then w - 1 else bhL a (a 3) (a 4) k - 1) (a 0) (R := some (nI (plc (sh a (a 3) (a 4)) (a 6) (a 7) (bhL a (a 3) (a 4) k - 1)) + nI (sh a (a 3) (a 4) (bhL a (a 3) (a 4) k - 1)), M')) (by omega) (fun n w hwd => ?_) (fun n => ?_)
        · exact hinv
        · obtain ⟨d1, d2, d3, d4⟩ := hL.2.2.2.2 w hwd
          have b2 := lno_lt (s := sh a (a 3) (a 4)) (gp := a 6) (lw := a 7) hwd
          have b3 : (ly (sh a (a 3) (a 4)) (a 6) (a 7) (a 0)).1 = lnN a (a 3) (a 4) := rfl
          rw [lp_X9_widthAgain_23]
          simp (disch := omega) only [i_0, q_gIn, q_cl, hM' _, q_le, Nat.not_le.mpr hwd, ↓reduceIte, ↓jn_eq, d3, q_eq, i_1, nI_add]
          have hi := isL_iff hD hkl hwd
          have hi2 : isL a (a 3) (a 4) k w = true ↔ lno (sh a (a 3) (a 4)) (a 6) (a 7) w = k := decide_eq_true_iff
          by_cases z : lno (sh a (a 3) (a 4)) (a 6) (a 7) w = k
          · have z2 := hi.mp (hi2.mpr z)
            have z3 : ¬ w + 1 ≤ fsL a (a 3) (a 4) k := by omega
            have z4 : w + 1 ≤ bhL a (a 3) (a 4) k := by omega
            simp only [z, z3, z4, ↓reduceIte, Nat.add_sub_cancel]
          · have z2 : ¬ (fsL a (a 3) (a 4) k ≤ w ∧ w < bhL a (a 3) (a 4) k) := fun q => z (hi2.mp (hi.mpr q))
            by_cases z3 : w + 1 ≤ fsL a (a 3) (a 4) k
            · have z4 : w ≤ fsL a (a 3) (a 4) k := by omega
              simp only [z, z3, z4, ↓reduceIte]
            · have z4 : bhL a (a 3) (a 4) k ≤ w := by omega
              have z5 : ¬ w ≤ fsL a (a 3) (a 4) k := by omega
              have z6 : ¬ w + 1 ≤ bhL a (a 3) (a 4) k := by omega
              by_cases z7 : w ≤ bhL a (a 3) (a 4) k
              · have z8 : w = bhL a (a 3) (a 4) k := by omega
                have z9 : ¬ bhL a (a 3) (a 4) k ≤ fsL a (a 3) (a 4) k := by omega
                have z10 : ¬ bhL a (a 3) (a 4) k + 1 ≤ fsL a (a 3) (a 4) k := by omega
                have z11 : ¬ bhL a (a 3) (a 4) k + 1 ≤ bhL a (a 3) (a 4) k := by omega
                subst z8
                simp only [z, z10, z9, z11, Nat.le_refl, ↓reduceIte]
              · simp only [z, z3, z5, z6, z7, ↓reduceIte]
        · have z1 : ¬ a 0 ≤ fsL a (a 3) (a 4) k := by omega
          have z2 : (if a 0 ≤ bhL a (a 3) (a 4) k then a 0 - 1 else bhL a (a 3) (a 4) k - 1) = bhL a (a 3) (a 4) k - 1 := by split <;> omega
          obtain ⟨d1, d2, d3, d4⟩ := hL.2.2.2.2 (bhL a (a 3) (a 4) k - 1) (by omega)
          rw [lp_X9_widthAgain_23]
          simp (disch := omega) only [i_0, q_gIn, q_cl, hM' _, q_le, Nat.le_refl, ↓reduceIte, z1, z2, d4, d2]
    · refine ⟨-11, M', ?_, ?_, hA⟩
      · simp only [hkl, ↓reduceIte, i_0]
      · simp only [hkl, ↓reduceIte]
end JJ1
