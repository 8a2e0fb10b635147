/-! ===== numbers below nothing ===== -/
theorem ngLt {v : Int32} (h : v < 0) {k : Nat} (hk : k < 2147483648) : (v < nI k) = True := eq_true (Int32.lt_of_lt_of_le h (nI_pos' hk))
theorem ngLe {v : Int32} (h : v < 0) {k : Nat} (hk : k < 2147483648) : (v ≤ nI k) = True := eq_true (Int32.le_of_lt (Int32.lt_of_lt_of_le h (nI_pos' hk)))
theorem ngGe {v : Int32} (h : v < 0) {k : Nat} (hk : k < 2147483648) : (nI k ≤ v) = False := eq_false (fun q => Int32.lt_irrefl (Int32.lt_of_lt_of_le (Int32.lt_of_lt_of_le h (nI_pos' hk)) q))
theorem ngGt {v : Int32} (h : v < 0) {k : Nat} (hk : k < 2147483648) : (nI k < v) = False := eq_false (fun q => Int32.lt_irrefl (Int32.lt_trans (Int32.lt_of_lt_of_le h (nI_pos' hk)) q))
theorem ngE {v : Int32} (h : v < 0) {k : Nat} (hk : k < 2147483648) : (v = nI k) = False := eq_false (fun q => by rw [q] at h; exact nI_pos hk h)
def DvC (C : kS) (a : kA) : Prop := FmC C a ∧ BrC C 113 a (a 3) (a 4) ∧ HdC C a ∧ ShC C a (a 3) (a 4)
def RD (C M : kS) (a : kA) : Prop := WF a ∧ SM M a ∧ StC C 4 a ∧ DvC C a
section XX8
variable {C M : kS} {a : kA} {N m st : Nat}
theorem m_inN {k lo hi : Nat} (hk : k < 2147483648) (hlo : lo < 2147483648) (hhi : hi < 2147483648) : f_X9_in N (nI k) (nI lo) (nI hi) = some (nI (if lo ≤ k ∧ k ≤ hi then 1 else 0)) := by
  unfold f_X9_in
  simp (disch := omega) only [↓jn_eq, q_lt]
  by_cases y : k < lo
  · simp only [y, Nat.not_le.mpr y, ↓reduceIte, false_and, i_0, i_1, q_and0]
  · by_cases z : hi < k
    · simp only [y, z, Nat.not_le.mpr z, ↓reduceIte, and_false, i_0, i_1, q_and0]
    · simp only [y, z, Nat.not_lt.mp y, Nat.not_lt.mp z, ↓reduceIte, and_self, i_1, q_and1]
theorem m_inG {v : Int32} {lo hi : Nat} (hv : v < 0) (hlo : lo < 2147483648) : f_X9_in N v (nI lo) (nI hi) = some (nI 0) := by
  unfold f_X9_in
  simp (disch := omega) only [↓jn_eq, ngLt hv, ↓reduceIte, i_0, i_1, q_and0]
theorem m_isWordN (h : SM M a) (h0 : a 0 ≤ 40) {k : Nat} (hk : k < 2147483648) : f_X9_isWord N M (nI k) = some (nI (if k < a 0 then 1 else 0)) := by
  unfold f_X9_isWord
  simp (disch := omega) only [↓jn_eq, q_neg, i_0, q_gIn, q_cl, h _, q_le, ↓reduceIte]
  by_cases y : k < a 0
  · simp only [y, Nat.not_le.mpr y, ↓reduceIte, i_1, q_and1]
    simp (disch := omega) only [q_lt, Nat.not_lt_zero, ↓reduceIte]
  · simp (disch := omega) only [q_lt, Nat.not_lt_zero, y, Nat.not_lt.mp y, ↓reduceIte, i_1, q_and0]
theorem m_isWordG {v : Int32} (hv : v < 0) : f_X9_isWord N M v = some (nI 0) := by
  unfold f_X9_isWord
  simp (disch := omega) only [↓jn_eq, i_0, ngLt hv, ↓reduceIte, i_1, q_and0]
theorem m_isNameN (h : SM M a) (h0 : a 1 ≤ 8) {k : Nat} (hk : k < 2147483648) : f_X9_isName N M (nI k) = some (nI (if k < a 1 then 1 else 0)) := by
  unfold f_X9_isName
  simp (disch := omega) only [↓jn_eq, q_neg, i_0, i_1, q_gIn, q_cl, h _, q_le, ↓reduceIte]
  by_cases y : k < a 1
  · simp only [y, Nat.not_le.mpr y, ↓reduceIte, q_and1]
    simp (disch := omega) only [q_lt, Nat.not_lt_zero, ↓reduceIte]
  · simp (disch := omega) only [q_lt, Nat.not_lt_zero, y, Nat.not_lt.mp y, ↓reduceIte, q_and0]
theorem m_isNameG {v : Int32} (hv : v < 0) : f_X9_isName N M v = some (nI 0) := by
  unfold f_X9_isName
  simp (disch := omega) only [↓jn_eq, i_0, ngLt hv, ↓reduceIte, i_1, q_and0]
theorem x_hasN {c k n : Nat} (h : C c 4 = nI n) (hn : n < 2147483648) (hk : k < 2147483648) : f_X7_has N C c (nI k) = some (nI (if k < n then 1 else 0)) := by
  unfold f_X7_has
  simp (disch := omega) only [↓jn_eq, q_neg, h, q_le, ↓reduceIte]
  by_cases y : k < n
  · simp only [y, Nat.not_le.mpr y, ↓reduceIte, i_1, q_and1]
  · simp only [y, Nat.not_lt.mp y, ↓reduceIte, i_0, i_1, q_and0]
theorem x_hasG {c : Nat} {v : Int32} (hv : v < 0) : f_X7_has N C c v = some (nI 0) := by
  unfold f_X7_has
  simp (disch := omega) only [↓jn_eq, i_0, ngLt hv, ↓reduceIte, i_1, q_and0]
theorem m_laysNow (h : SM M a) (hw : WF a) (hN : 3000 ≤ N) : ∃ M', f_X9_laysNow N M = some M' ∧ AgM M M' ∧ LD M' a (a 3) (a 4) := by
  obtain ⟨M', e, h1, h2⟩ := m_lays h hw hw.2.2.2.1 hw.2.2.2.2.1 hN
  refine ⟨M', ?_, h1, h2⟩
  unfold f_X9_laysNow
  simp (disch := omega) only [i_3, i_4, q_gIn, q_cl, h _, e, ob]
theorem lnN_le (hw : WF a) (hst : 1 ≤ st ∧ st ≤ 50) : lnN a m st ≤ a 0 := (ly_b (s := sh a m st) (gp := a 6) (lw := a 7) (n := a 0) (fun v hv => sh_le hw hst hv) (by have := hw.2.2.2.2.2.2.1; omega) (by have := hw.2.2.2.2.2.2.2.1; omega) (a 0) (Nat.le_refl _)).1
theorem x_hasLineN (hD : ShC C a m st) (hw : WF a) (hst : 1 ≤ st ∧ st ≤ 50) {l : Nat} (hl : l < 2147483648) : f_X4_hasLine N C (nI l) = some (nI (if l < lnN a m st then 1 else 0)) := by
  have h1 := lnN_le hw (m := m) hst
  have w0 := hw.1
  have h2 : C 119 8 = nI (lnN a m st) := hD.1
  unfold f_X4_hasLine
  simp (disch := omega) only [↓jn_eq, q_neg, h2, q_le, ↓reduceIte]
  by_cases y : l < lnN a m st
  · simp only [y, Nat.not_le.mpr y, ↓reduceIte, i_1, q_and1]
  · simp only [y, Nat.not_lt.mp y, ↓reduceIte, i_0, i_1, q_and0]
theorem x_hasLineG {v : Int32} (hv : v < 0) : f_X4_hasLine N C v = some (nI 0) := by
  unfold f_X4_hasLine
  simp (disch := omega) only [↓jn_eq, i_0, ngLt hv, ↓reduceIte, i_1, q_and0]
/-- the words of a line are those from its first one on -/
theorem isL_in (hD : ShC C a m st) {l i : Nat} (hl : l < lnN a m st) (hi : i < bhL a m st l - fsL a m st l) : isL a m st l (fsL a m st l + i) = true := by
  have h1 := bhL_b hD hl
  exact (isL_iff hD hl (by omega)).mpr ⟨by omega, by omega⟩
theorem isL_lo (hD : ShC C a m st) {l w : Nat} (hl : l < lnN a m st) (hlo : w < fsL a m st l) : isL a m st l w = false := fst_no _ _ _ hlo
theorem isL_hi (hD : ShC C a m st) {l w : Nat} (hl : l < lnN a m st) (hwd : w < a 0) (hhi : bhL a m st l ≤ w) : isL a m st l w = false := by
  cases z : isL a m st l w with
  | false => rfl
  | true =>
    have := ((isL_iff hD hl hwd).mp z).2
    omega
theorem lsum_lo (hD : ShC C a m st) {l what : Nat} (hl : l < lnN a m st) : ∀ w, w ≤ fsL a m st l → lsum a m st l what w = 0
  | 0, _ => rfl
  | w + 1, h => by
    have ih := lsum_lo hD (what := what) hl w (by omega)
    rw [lsum, isL_lo hD hl (by omega), ih]
    rfl
theorem lsum_hi (hD : ShC C a m st) {l what : Nat} (hl : l < lnN a m st) : ∀ d, bhL a m st l + d ≤ a 0 → lsum a m st l what (bhL a m st l + d) = lsum a m st l what (bhL a m st l)
  | 0, _ => rfl
  | d + 1, h => by
    have ih := lsum_hi hD (what := what) hl d (by omega)
    rw [← Nat.add_assoc, lsum, isL_hi hD hl (by omega) (by omega), ih]
    rfl
theorem lsum_all (hD : ShC C a m st) {l what : Nat} (hl : l < lnN a m st) : lsum a m st l what (a 0) = lsum a m st l what (bhL a m st l) := by
  have h1 := bhL_b hD hl
  have h2 := lsum_hi hD (what := what) hl (a 0 - bhL a m st l) (by omega)
  rw [show bhL a m st l + (a 0 - bhL a m st l) = a 0 by omega] at h2
  exact h2
theorem lsum_in (hD : ShC C a m st) {l what i : Nat} (hl : l < lnN a m st) (hi : i < bhL a m st l - fsL a m st l) : lsum a m st l what (fsL a m st l + (i + 1)) = lsum a m st l what (fsL a m st l + i) + (if what = 2 then sh a m st (fsL a m st l + i) + (if i = 0 then 0 else a 6) else if what = 1 then 1 else if hid a (fsL a m st l + i) = true then 1 else 0) := by
  have h1 := bhL_b hD hl
  rw [← Nat.add_assoc, lsum, isL_in hD hl hi, if_pos rfl]
  by_cases z : i = 0
  · have e : fst (isL a m st l) (fsL a m st l + i) = fsL a m st l + i := by
      rw [z]
      exact fst_none (fun j hj => isL_lo hD hl hj)
    rw [e]
    simp only [Nat.lt_irrefl, z, ↓reduceIte]
  · have e : fst (isL a m st l) (fsL a m st l + i) = fsL a m st l := fst_uniq (by omega) (by have := isL_in hD hl (i := 0) (by omega); exact this) (fun j hj => isL_lo hD hl hj)
    rw [e]
    have e2 : fsL a m st l < fsL a m st l + i := by omega
    simp only [e2, z, ↓reduceIte]
theorem lsum_1 (hD : ShC C a m st) {l : Nat} (hl : l < lnN a m st) : ∀ i, i ≤ bhL a m st l - fsL a m st l → lsum a m st l 1 (fsL a m st l + i) = i
  | 0, _ => lsum_lo hD hl _ (Nat.le_refl _)
  | i + 1, h => by
    have ih := lsum_1 hD hl i (by omega)
    rw [lsum_in hD hl (by omega), ih]
    rfl
theorem d_max {d : Int32} {α : Type} {F : Int32 → α} : (if 0 ≤ d then F d else F 0) = F (if 0 < d then d else 0) := by
  by_cases y : 0 < d
  · rw [if_pos y, if_pos (Int32.le_of_lt y)]
  · rw [if_neg y]
    by_cases z : 0 ≤ d
    · rw [if_pos z, Int32.le_antisymm (Int32.not_lt.mp y) z]
    · rw [if_neg z]
end XX8
