/-! ===== both programs' answers: same, stepFor, modeFor ===== -/
def tel (a : kA) (m st one oth w : Nat) : Bool := hid a w && (decide (fo a w / (a 2 + 1) = one ∨ fo a w / (a 2 + 1) = oth) && !decide (bw a m st (one * (a 2 + 1) + fo a w % (a 2 + 1)) = bw a m st (oth * (a 2 + 1) + fo a w % (a 2 + 1))))
section JJ4
variable {C M : kS} {a : kA} {N m st : Nat}
theorem nE_lt {nm r : Nat} (h : nm < a 1) (hr : r < a 2 + 1) : nm * (a 2 + 1) + r < sF a := by
  have h1 := Nat.mul_le_mul_right (a 2 + 1) (show nm + 1 ≤ a 1 from h)
  rw [Nat.succ_mul] at h1
  unfold sF
  omega
theorem nE_num {nm r : Nat} : nI nm * nI (a 2 + 1) + (nI r - nI 1) + nI 1 = nI (nm * (a 2 + 1) + r) := by
  rw [Int32.add_assoc, Int32.sub_add_cancel, pk_mul, nI_add]
theorem x_tells {w one oth : Nat} (hF : FmC C a) (hB : BrC C 113 a m st) (hH : HdC C a) (hw : WF a) (hst : 1 ≤ st ∧ st ≤ 50) (hwd : w < a 0) (hh : hid a w = true) (h1 : one < a 1) (h2 : oth < a 1) : f_X8_tellsApart N C (nI w) (nI one) (nI oth) = some (nI (if tel a m st one oth w = true then 1 else 0)) := by
  obtain ⟨z1, z2⟩ := foV_t w hh
  have hle := sF_le hw
  have hr := fr (a := a) (fo a w)
  have hq := fq z2
  have w1 := hw.2.1
  have n1 := nE_lt h1 hr
  have n2 := nE_lt h2 hr
  have b1 := bw_le hw (m := m) hst n1
  have b2 := bw_le hw (m := m) hst n2
  unfold f_X8_tellsApart f_X1_numberOf tel
  rw [hF.1, i_1]
  simp (disch := omega) only [x_formOf hH hw hwd, ob, z1, x_nameOf hF.1 hw.2.2.1, x_endingOf hF.1 hw.2.2.1, nE_num, x_barW hB (Or.inl rfl) hw n1, x_barW hB (Or.inl rfl) hw n2, q_eq, hh, Bool.true_and, i_0, i_1, q_and0, q_and1, ↓jn_eq]
  by_cases y : bw a m st (one * (a 2 + 1) + fo a w % (a 2 + 1)) = bw a m st (oth * (a 2 + 1) + fo a w % (a 2 + 1))
  · simp only [y, ↓reduceIte, q_and0, ite_self, decide_true, Bool.not_true, Bool.and_false, Bool.false_eq_true]
  · by_cases y1 : fo a w / (a 2 + 1) = one
    · simp only [y, y1, ↓reduceIte, q_and1, decide_false, Bool.not_false, true_or, decide_true, Bool.and_self]
    · by_cases y2 : fo a w / (a 2 + 1) = oth
      · simp only [y, y1, y2, ↓reduceIte, q_and1, decide_false, Bool.not_false, or_true, decide_true, Bool.and_self, ite_self]
      · simp only [y1, y2, ↓reduceIte, or_self, decide_false, Bool.false_and, Bool.false_eq_true]
theorem x_same {one oth : Nat} (hS : StC C 4 a) (hF : FmC C a) (hB : BrC C 113 a m st) (hH : HdC C a) (hw : WF a) (hst : 1 ≤ st ∧ st ≤ 50) (h1 : one < a 1) (h2 : oth < a 1) (hN : 3000 ≤ N) : lp_X8_same_33 N C (nI one) (nI oth) (some 1) N (nI 0) = some (nI (if allB (fun w => !tel a m st one oth w) (a 0) = true then 1 else 0)) := by
  have w0 := hw.1
  refine (lpX (fun n i => lp_X8_same_33 N C (nI one) (nI oth) (some 1) n (nI i)) (a 0) (tel a m st one oth) (fun _ => some 0) (some 1) (fun n w hwd hp => ?_) (fun n w hwd hp => ?_) (fun n => ?_) (N := N) (by omega)).trans ?_
  · show lp_X8_same_33 N C (nI one) (nI oth) (some 1) (n + 1) (nI w) = lp_X8_same_33 N C (nI one) (nI oth) (some 1) n (nI (w + 1))
    rw [lp_X8_same_33, x_isHidden hH hw hwd]
    cases z : hid a w with
    | true => simp (disch := omega) only [(x_size hS).1, ob, q_le, Nat.not_le.mpr hwd, ↓reduceIte, ↓jn_eq, i_0, q_nT, x_tells hF hB hH hw hst hwd z h1 h2, hp, Bool.false_eq_true, i_1, nI_add]
    | false => simp (disch := omega) only [(x_size hS).1, ob, q_le, Nat.not_le.mpr hwd, ↓reduceIte, ↓jn_eq, i_0, Bool.false_eq_true, i_1, nI_add]
  · show lp_X8_same_33 N C (nI one) (nI oth) (some 1) (n + 2) (nI w) = some 0
    have z : hid a w = true := (Bool.and_eq_true_iff.mp hp).1
    rw [lp_X8_same_33, x_isHidden hH hw hwd]
    simp (disch := omega) only [(x_size hS).1, ob, q_le, Nat.not_le.mpr hwd, ↓reduceIte, ↓jn_eq, z, i_0, q_nT, x_tells hF hB hH hw hst hwd z h1 h2, hp]
  · show lp_X8_same_33 N C (nI one) (nI oth) (some 1) (n + 1) (nI (a 0)) = some 1
    rw [lp_X8_same_33]
    simp (disch := omega) only [(x_size hS).1, ob, q_le, Nat.le_refl, ↓reduceIte]
  · rw [allB_fst]
    simp only [Bool.not_not]
    by_cases y : fst (tel a m st one oth) (a 0) < a 0
    · have y2 : fst (fun w => tel a m st one oth w) (a 0) < a 0 := y
      simp only [y, y2, ↓reduceIte, not_true, decide_false, Bool.false_eq_true, i_0]
    · have y2 : ¬ fst (fun w => tel a m st one oth w) (a 0) < a 0 := y
      simp only [y, y2, ↓reduceIte, not_false_iff, decide_true, i_1]
theorem m_same {one oth : Nat} (hM : SM M a) (hL : LD M a m st) (hw : WF a) (hst : 1 ≤ st ∧ st ≤ 50) (h1 : one < a 1) (h2 : oth < a 1) (hN : 3000 ≤ N) (kont : Int32 → Option (Int32 × kS)) : lp_X9_same_28 N (nI one) (nI oth) M kont N (nI 1) (nI 0) = kont (nI (if allB (fun w => !tel a m st one oth w) (a 0) = true then 1 else 0)) := by
  obtain ⟨w0, w1, w2, w3, w4, w5, w6, w7, wl, wp, wn, we⟩ := id hw
  have hle := sF_le hw
  refine lpE (fun n x y => lp_X9_same_28 N (nI one) (nI oth) M kont n x y) (fun i => if allB (fun w => !tel a m st one oth w) i = true then 1 else 0) (a 0) (by omega) (fun n w hwd => ?_) (fun n => ?_)
  · obtain ⟨d1, d2, d3, d4⟩ := hL.2.2.2.2 w hwd
    rw [lp_X9_same_28, allB]
    generalize allB (fun w => !tel a m st one oth w) w = T
    simp (disch := omega) only [i_0, i_1, q_gIn, q_cl, hM _, q_le, Nat.not_le.mpr hwd, ↓reduceIte, ↓jn_eq, d1, d2]
    cases z : hid a w with
    | true =>
      obtain ⟨z1, z2⟩ := foV_t w z
      have hr := fr (a := a) (fo a w)
      have hq := fq z2
      have n1 := nE_lt h1 hr
      have n2 := nE_lt h2 hr
      have b1 := bw_le hw (m := m) hst n1
      have b2 := bw_le hw (m := m) hst n2
      have b3 := bw_le hw (m := m) hst z2
      have hdm := Nat.div_add_mod (fo a w) (a 2 + 1)
      rw [Nat.mul_comm] at hdm
      simp (disch := omega) only [z1, q_le, Nat.zero_le, ↓reduceIte, m_each hM, ob, q_nz, q_rem, sh_t w z, tel, z, Bool.true_and, nI_add]
      rw [q_div (by omega) (by omega) (by omega)]
      simp (disch := omega) only [q_eq, ↓jn_eq]
      by_cases y1 : fo a w / (a 2 + 1) = one
      · rw [y1] at hdm
        have b4 := b3
        rw [← hdm] at b4
        simp (disch := omega) only [y1, ↓reduceIte, pk_mul, nI_add, q_gIn, q_cl, hL.2.2.1, q_eq, true_or, decide_true, Bool.true_and, Bool.not_not]
        have hdm2 : bw a m st (fo a w) = bw a m st (one * (a 2 + 1) + fo a w % (a 2 + 1)) := by rw [hdm]
        rw [hdm2]
        cases T with
        | false => simp only [Bool.false_and, Bool.false_eq_true, ↓reduceIte]
        | true =>
          by_cases y : bw a m st (one * (a 2 + 1) + fo a w % (a 2 + 1)) = bw a m st (oth * (a 2 + 1) + fo a w % (a 2 + 1))
          · simp only [y, ↓reduceIte, decide_true, Bool.and_self, q_nT]
          · have y9 : ¬ bw a m st (oth * (a 2 + 1) + fo a w % (a 2 + 1)) = bw a m st (one * (a 2 + 1) + fo a w % (a 2 + 1)) := fun q => y q.symm
            simp only [y, y9, ↓reduceIte, decide_false, Bool.and_false, q_nT, Bool.false_eq_true]
      · by_cases y2 : fo a w / (a 2 + 1) = oth
        · rw [y2] at hdm
          simp (disch := omega) only [y1, y2, ↓reduceIte, pk_mul, nI_add, q_gIn, q_cl, hL.2.2.1, q_eq, or_true, decide_true, Bool.true_and, Bool.not_not]
          have hdm2 : bw a m st (fo a w) = bw a m st (oth * (a 2 + 1) + fo a w % (a 2 + 1)) := by rw [hdm]
          have y3 : ¬ oth = one := fun q => y1 (y2.trans q)
          rw [hdm2]
          cases T with
          | false => simp only [y3, Bool.false_and, Bool.false_eq_true, ↓reduceIte]
          | true =>
            by_cases y : bw a m st (one * (a 2 + 1) + fo a w % (a 2 + 1)) = bw a m st (oth * (a 2 + 1) + fo a w % (a 2 + 1))
            · simp only [y3, y, ↓reduceIte, decide_true, Bool.and_self, q_nT]
            · simp only [y3, y, ↓reduceIte, decide_false, Bool.and_false, q_nT, Bool.false_eq_true]
        · simp only [y1, y2, ↓reduceIte, or_self, decide_false, Bool.false_and, Bool.not_false, Bool.and_true, nI_add]
    | false =>
      simp (disch := omega) only [foV_f w z, q_le1n, ↓reduceIte, tel, z, Bool.false_and, Bool.not_false, Bool.and_true, nI_add]
      have e1 : (-nI 1 = nI one) = False := eq_false (fun q => by rw [← q_m1n (show one < 2147483648 by omega)]; exact q.symm)
      have e2 : (-nI 1 = nI oth) = False := eq_false (fun q => by rw [← q_m1n (show oth < 2147483648 by omega)]; exact q.symm)
      simp only [e1, e2, ↓reduceIte]
  · rw [lp_X9_same_28]
    simp (disch := omega) only [i_0, q_gIn, q_cl, hM _, q_le, Nat.le_refl, ↓reduceIte]
theorem J_same (h : RD C M a) (v p : Int32) (hN : 3000 ≤ N) : ∃ r M', f_X8_same N C v p = some r ∧ f_X9_same N M v p = some (r, M') ∧ AgM M M' := by
  obtain ⟨hw, hM, hS, hF, hB, hH, hD⟩ := h
  obtain ⟨w0, w1, w2, w3, w4, w5, w6, w7, wl, wp, wn, we⟩ := id hw
  obtain ⟨M', eL, hA, hL⟩ := m_laysNow hM hw hN
  have hst := hw.2.2.2.2.1
  have hM' := hA.sm hM
  unfold f_X8_same f_X9_same
  rcases sg v with hv | ⟨one, h1k, rfl⟩
  · refine ⟨-11, M, ?_, ?_, AgM.rf⟩
    · rw [x_hasG hv, ob, i_0, if_pos rfl]
    · rw [m_isNameG hv, ob, i_0, if_pos rfl]
  · rw [x_hasN hS.2.1.2.2.1 (by omega) h1k, m_isNameN hM w1 h1k, ob, ob]
    by_cases h1 : one < a 1
    · simp only [h1, ↓reduceIte, i_0, q_nT]
      rcases sg p with hp | ⟨oth, h2k, rfl⟩
      · refine ⟨-11, M, ?_, ?_, AgM.rf⟩
        · rw [x_hasG hp, ob, if_pos rfl]
        · rw [m_isNameG hp, ob, if_pos rfl]
      · rw [x_hasN hS.2.1.2.2.1 (by omega) h2k, m_isNameN hM w1 h2k, ob, ob]
        by_cases h2 : oth < a 1
        · refine ⟨nI (if allB (fun w => !tel a (a 3) (a 4) one oth w) (a 0) = true then 1 else 0), M', ?_, ?_, hA⟩
          · simp only [h2, ↓reduceIte, q_nT, ↓jn_eq]
            exact x_same hS hF hB hH hw hst h1 h2 hN
          · simp only [h2, ↓reduceIte, q_nT, ↓jn_eq, eL, ob, i_1]
            rw [m_same hM' hL hw hst h1 h2 hN]
            cases allB (fun w => !tel a (a 3) (a 4) one oth w) (a 0) with
            | true => simp only [↓reduceIte, q_nT]
            | false => simp only [Bool.false_eq_true, ↓reduceIte]
        · refine ⟨-11, M, ?_, ?_, AgM.rf⟩
          · simp only [h2, ↓reduceIte]
          · simp only [h2, ↓reduceIte]
    · refine ⟨-11, M, ?_, ?_, AgM.rf⟩
      · simp only [h1, ↓reduceIte, i_0]
      · simp only [h1, ↓reduceIte, i_0]
end JJ4
