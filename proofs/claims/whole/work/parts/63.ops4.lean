/-! ===== both programs' answers: same, stepFor, modeFor ===== -/
def tel (a : kA) (m st one oth w : Nat) : Bool := hid a w && (decide (fo a w / (a 2 + 1) = one ∨ fo a w / (a 2 + 1) = oth) && !decide (bw a m st (one * (a 2 + 1) + fo a w % (a 2 + 1)) = bw a m st (oth * (a 2 + 1) + fo a w % (a 2 + 1))))
section JJ4
variable {C M : kS} {a : kA} {N m st : Nat}
theorem nE_lt {nm r : Nat} (h : nm < a 1) (hr : r < a 2 + 1) : nm * (a 2 + 1) + r < sF a := by
  have h1 := Nat.mul_le_mul_right (a 2 + 1) (show nm + 1 ≤ a 1 from h)
  rw [Nat.succ_mul] at h1
  unfold sF
  omega
theorem nE_num {nm r : Nat} : nI nm * nI (a 2 + 1) + (nI r - nI 1) + nI 1 = nI (nm * (a 2 + 1) + r) := by
  rw [Int32.add_assoc, Int32.sub_add_cancel, pk_mul, nI_add]
theorem x_tells {w one oth : Nat} (hF : FmC C a) (hB : BrC C 113 a m st) (hH : HdC C a) (hw : WF a) (hst : 1 ≤ st ∧ st ≤ 50) (hwd : w < a 0) (hh : hid a w = true) (h1 : one < a 1) (h2 : oth < a 1) : f_X8_tellsApart N C (nI w) (nI one) (nI oth) = some (nI (if tel a m st one oth w = true then 1 else 0)) := by
  obtain ⟨z1, z2⟩ := foV_t w hh
  have hle := sF_le hw
  have hr := fr (a := a) (fo a w)
  have hq := fq z2
  have w1 := hw.2.1
  have n1 := nE_lt h1 hr
  have n2 := nE_lt h2 hr
  have b1 := bw_le hw (m := m) hst n1
  have b2 := bw_le hw (m := m) hst n2
  unfold f_X8_tellsApart f_X1_numberOf tel
  rw [hF.1, i_1, nE_num]
  simp (disch := omega) only [x_formOf hH hw hwd, ob, z1, x_nameOf hF.1 hw.2.2.1, x_endingOf hF.1 hw.2.2.1, nE_num, x_barW hB (Or.inl rfl) hw n1, x_barW hB (Or.inl rfl) hw n2, q_eq, hh, Bool.true_and, i_0, i_1, q_and0, q_and1, ↓jn_eq]
  by_cases y : bw a m st (one * (a 2 + 1) + fo a w % (a 2 + 1)) = bw a m st (oth * (a 2 + 1) + fo a w % (a 2 + 1))
  · simp only [y, ↓reduceIte, q_and0, ite_self, decide_true, Bool.not_true, Bool.and_false, Bool.false_eq_true]
  · by_cases y1 : fo a w / (a 2 + 1) = one
    · simp only [y, y1, ↓reduceIte, q_and1, decide_false, Bool.not_false, true_or, decide_true, Bool.and_self]
    · by_cases y2 : fo a w / (a 2 + 1) = oth
      · simp only [y, y1, y2, ↓reduceIte, q_and1, decide_false, Bool.not_false, or_true, decide_true, Bool.and_self, ite_self]
      · simp only [y1, y2, ↓reduceIte, or_self, decide_false, Bool.false_and, Bool.false_eq_true]
end JJ4
