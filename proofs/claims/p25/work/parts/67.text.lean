/-! ===== the text and its faults ===== -/
def TxC (C M : kS) (t : Nat) (c : Nat → Nat) : Prop := t ≤ 200 ∧ C 1 1 = nI t ∧ M 0 4 = nI t ∧ ∀ i, i < t → (32 ≤ c i ∧ c i ≤ 126) ∧ C 3 i = nI (c i) ∧ M 3 i = nI (c i)
def isl (c : Nat) : Bool := decide (97 ≤ c ∧ c ≤ 122)
def run (c : Nat → Nat) : Nat → Nat
  | 0 => 0
  | i + 1 => if isl (c i) = true then run c i + 1 else 0
def wrd (c : Nat → Nat) (i : Nat) : Nat := ct (fun k => isl (c k) && decide (run c k = 0)) i
def rsn (c : Nat → Nat) (t i : Nat) : Nat := if c i = 32 then (if run c i = 0 ∨ i = t - 1 then 2 else 0) else if isl (c i) = true then (if 12 ≤ run c i then 3 else if run c i = 0 ∧ 40 ≤ wrd c i then 4 else 0) else 1
theorem run_le (c : Nat → Nat) : ∀ i, run c i ≤ i
  | 0 => Nat.le_refl 0
  | i + 1 => by
    have ih := run_le c i
    rw [run]
    split <;> omega
theorem wrd_le (c : Nat → Nat) (i : Nat) : wrd c i ≤ i := ct_le _ _
theorem isl_32 : isl 32 = false := by decide
section TT1
variable {C M : kS} {a : kA} {N t : Nat} {c : Nat → Nat}
theorem x_isLetter {x : Nat} (hx : x < 2147483648) : f_X8_isLetter N (nI x) = some (nI (if isl x = true then 1 else 0)) := by
  unfold f_X8_isLetter isl
  simp (disch := omega) only [↓jn_eq, i_97, i_122, q_lt]
  by_cases y : x < 97
  · have y2 : ¬ (97 ≤ x ∧ x ≤ 122) := by omega
    simp only [y, y2, decide_false, ↓reduceIte, i_0, i_1, q_and0, Bool.false_eq_true]
  · by_cases z : 122 < x
    · have y2 : ¬ (97 ≤ x ∧ x ≤ 122) := by omega
      simp only [y, z, y2, decide_false, ↓reduceIte, i_0, i_1, q_and0, Bool.false_eq_true]
    · have y2 : 97 ≤ x ∧ x ≤ 122 := by omega
      simp only [y, z, y2, and_self, decide_true, ↓reduceIte, i_1, q_and1]
theorem m_isLetter {x : Nat} (hx : x < 2147483648) : f_X9_isLetter N (nI x) = some (nI (if isl x = true then 1 else 0)) := by
  unfold f_X9_isLetter isl
  rw [i_97, i_122, m_inN hx (by decide) (by decide), ob]
  by_cases y : 97 ≤ x ∧ x ≤ 122
  · simp only [y, and_self, decide_true, ↓reduceIte, i_1, q_and1]
  · simp only [y, decide_false, ↓reduceIte, i_1, q_and0, Bool.false_eq_true]
theorem x_chr (hT : TxC C M t c) {i : Nat} (hi : i < t) : f_X3_at N C 2 (nI i) = some (nI (c i)) := by
  rw [x_at (k := 2) (n := 200) rfl (by have := hT.1; omega) (by decide), (hT.2.2.2 i hi).2.1]
theorem run_last (c : Nat → Nat) {i : Nat} : ∀ d, d ≤ run c i → d < run c i → isl (c (i - 1 - d)) = true := by
  induction i with
  | zero => intro d _ h; exact absurd h (Nat.not_lt_zero d)
  | succ i ih =>
    intro d _ h
    rw [run] at h
    split at h
    · rename_i z
      cases d with
      | zero => exact z
      | succ d =>
        have := ih d (by omega) (by omega)
        rw [show i + 1 - 1 - (d + 1) = i - 1 - d by omega]
        exact this
    · omega
theorem run_end (c : Nat → Nat) {i : Nat} (h : run c i < i) : isl (c (i - 1 - run c i)) = false := by
  induction i with
  | zero => omega
  | succ i ih =>
    rw [run] at h ⊢
    split
    · rename_i z
      rw [if_pos z] at h
      rw [show i + 1 - 1 - (run c i + 1) = i - 1 - run c i by omega]
      exact ih (by omega)
    · rename_i z
      simpa using z
theorem x_lettersAhead (hT : TxC C M t c) {i : Nat} (hi : i < t) (hN : 3000 ≤ N) : f_X6_lettersAhead N C (nI i) = some (nI (if run c i < 12 then run c i else 12)) := by
  have ht := hT.1
  have hr := run_le c i
  unfold f_X6_lettersAhead
  simp only [↓jn_eq, i_0]
  have hend : ∀ n, run c i < 12 → lp_X6_lettersAhead_2 N C (nI i) (fun x1 => some x1) (n + 1) (nI (run c i)) = some (nI (run c i)) := fun n h12 => by
    rw [lp_X6_lettersAhead_2]
    by_cases z : run c i < i
    · have e := run_end c z
      have b := (hT.2.2.2 (i - 1 - run c i) (by omega)).1
      simp (disch := omega) only [i_12, q_le, if_neg, i_1, q_sub, x_chr hT (i := i - 1 - run c i), ob, x_isLetter, e, Bool.false_eq_true, ↓reduceIte, i_0]
    · have e : run c i = i := by omega
      have e2 : nI i - nI 1 - nI i < 0 := by
        have e3 : nI i - nI 1 - nI i = -nI 1 := by
          rw [Int32.sub_eq_add_neg, Int32.sub_eq_add_neg, Int32.add_assoc, Int32.add_comm (-nI 1), ← Int32.add_assoc, Int32.add_right_neg, Int32.zero_add]
        rw [e3]
        decide
      rw [e] at h12 ⊢
      rw [i_12, if_neg (fun q => by have := (nI_leI (by decide) (by omega)).mp q; omega), i_1, x_atn e2, ob, x_isLetter (by decide), ob]
      rfl
  have hstep : ∀ n d, d < run c i → d < 12 → lp_X6_lettersAhead_2 N C (nI i) (fun x1 => some x1) (n + 1) (nI d) = lp_X6_lettersAhead_2 N C (nI i) (fun x1 => some x1) n (nI (d + 1)) := fun n d h1 h2 => by
    have e := run_last c d (by omega) h1
    have b := (hT.2.2.2 (i - 1 - d) (by omega)).1
    rw [lp_X6_lettersAhead_2]
    simp (disch := omega) only [i_12, q_le, if_neg, i_1, q_sub, x_chr hT (i := i - 1 - d), ob, x_isLetter, e, ↓reduceIte, i_0, q_nT, nI_add]
  by_cases z : run c i < 12
  · obtain ⟨n, e⟩ := lpF (fun n i2 (x : Nat) => lp_X6_lettersAhead_2 N C (nI i) (fun x1 => some x1) n (nI i2)) (fun i => i) (run c i) (fun n d hd => hstep n d hd (by omega)) (N := N) 0 (Nat.zero_le _) (by omega)
    rw [if_pos z]
    exact e.trans (hend n z)
  · obtain ⟨n, e⟩ := lpF (fun n i2 (x : Nat) => lp_X6_lettersAhead_2 N C (nI i) (fun x1 => some x1) n (nI i2)) (fun i => i) 12 (fun n d hd => hstep n d (by omega) hd) (N := N) 0 (Nat.zero_le _) (by omega)
    rw [if_neg z]
    refine e.trans ?_
    show lp_X6_lettersAhead_2 N C (nI i) (fun x1 => some x1) (n + 1) (nI 12) = _
    rw [lp_X6_lettersAhead_2, i_12, if_pos (by decide)]
theorem run0 (c : Nat → Nat) (k : Nat) : run c k = 0 ↔ (k = 0 ∨ isl (c (k - 1)) = false) := by
  cases k with
  | zero => exact ⟨fun _ => Or.inl rfl, fun _ => rfl⟩
  | succ k =>
    rw [run, Nat.add_sub_cancel]
    cases z : isl (c k) with
    | true => simp
    | false => simp
theorem x_wordsAhead (hT : TxC C M t c) {i : Nat} (hi : i < t) (hN : 3000 ≤ N) : f_X6_wordsAhead N C (nI i) = some (nI (wrd c i)) := by
  have ht := hT.1
  unfold f_X6_wordsAhead
  simp only [↓jn_eq, i_0]
  refine lpE (fun n x y => lp_X6_wordsAhead_4 N C (nI i) (fun x1 => some x1) n x y) (fun k => wrd c k) i (by omega) (fun n k hk => ?_) (fun n => ?_)
  · have b := (hT.2.2.2 k (by omega)).1
    have hstep : wrd c (k + 1) = wrd c k + (if (isl (c k) && decide (run c k = 0)) = true then 1 else 0) := rfl
    rw [lp_X6_wordsAhead_4, hstep]
    cases z : isl (c k) with
    | false => simp (disch := omega) only [q_le, Nat.not_le.mpr hk, ↓reduceIte, x_chr hT (i := k), ob, x_isLetter, z, ↓jn_eq, i_0, Bool.false_eq_true, i_1, nI_add, Bool.false_and, Nat.add_zero]
    | true =>
      by_cases y : run c k = 0
      · have y2 := (run0 c k).mp y
        have hp : (f_X3_at N C 2 (nI k - nI 1)).bind (fun r14 => (f_X8_isLetter N r14).bind (fun r16 => if r16 = nI 0 then lp_X6_wordsAhead_4 N C (nI i) (fun x1 => some x1) n (nI (wrd c k) + nI 1) (nI k + nI 1) else lp_X6_wordsAhead_4 N C (nI i) (fun x1 => some x1) n (nI (wrd c k)) (nI k + nI 1))) = lp_X6_wordsAhead_4 N C (nI i) (fun x1 => some x1) n (nI (wrd c k) + nI 1) (nI k + nI 1) := by
          rcases y2 with y2 | y2
          · rw [y2, q_en0, x_atn (by decide), ob, x_isLetter (by decide), ob]
            rfl
          · by_cases k0 : k = 0
            · rw [k0, q_en0, x_atn (by decide), ob, x_isLetter (by decide), ob]
              rfl
            · have b2 := (hT.2.2.2 (k - 1) (by omega)).1
              rw [q_sub (by omega), x_chr hT (by omega), ob, x_isLetter (by omega), y2, ob]
              rfl
        simp (disch := omega) only [q_le, Nat.not_le.mpr hk, ↓reduceIte, x_chr hT (i := k), ob, x_isLetter, z, ↓jn_eq, i_0, q_nT, i_1, Bool.true_and, y, decide_true]
        rw [hp, nI_add, nI_add]
      · have y2 : ¬ (k = 0 ∨ isl (c (k - 1)) = false) := fun q => y ((run0 c k).mpr q)
        have k0 : ¬ k = 0 := fun q => y2 (Or.inl q)
        have y3 : isl (c (k - 1)) = true := by
          cases q : isl (c (k - 1)) with
          | true => rfl
          | false => exact absurd (Or.inr q) y2
        have b2 := (hT.2.2.2 (k - 1) (by omega)).1
        simp (disch := omega) only [q_le, Nat.not_le.mpr hk, ↓reduceIte, x_chr hT (i := k), ob, x_isLetter, z, ↓jn_eq, i_0, q_nT, i_1, q_sub, x_chr hT (i := k - 1), y3, Bool.true_and, y, decide_false, Bool.false_eq_true, nI_add, Nat.add_zero]
  · rw [lp_X6_wordsAhead_4]
    simp (disch := omega) only [q_le, Nat.le_refl, ↓reduceIte]
theorem x_reason (hT : TxC C M t c) {i : Nat} (hi : i < t) (hN : 3000 ≤ N) : f_X6_faultReason N C (nI i) = some (nI (rsn c t i)) := by
  have ht := hT.1
  have hr := run_le c i
  have hwr := wrd_le c i
  have b := (hT.2.2.2 i hi).1
  unfold f_X6_faultReason rsn
  rw [x_chr hT hi, ob, x_lettersAhead hT hi hN, x_wordsAhead hT hi hN, hT.2.1]
  have hL1 : (if run c i < 12 then run c i else 12) ≤ 12 := by split <;> omega
  have hL2 : (if run c i < 12 then run c i else 12) = 0 ↔ run c i = 0 := by split <;> omega
  have hL3 : (if run c i < 12 then run c i else 12) < 12 ↔ run c i < 12 := by split <;> omega
  generalize (if run c i < 12 then run c i else 12) = L at hL1 hL2 hL3
  simp (disch := omega) only [i_32, q_eq, i_0, i_1, i_2, i_3, i_12, i_40, q_le, q_lt, q_sub, ↓jn_eq, ob, x_isLetter, Nat.le_zero_eq]
  by_cases z : c i = 32
  · by_cases y : run c i = 0
    · have y2 := hL2.mpr y
      simp only [z, y, y2, ↓reduceIte, true_or]
    · have y2 : ¬ L = 0 := fun q => y (hL2.mp q)
      by_cases x : i = t - 1
      · have x2 : t - 1 ≤ i := by omega
        rw [if_pos (Or.inr x)]
        simp only [z, y2, x2, ↓reduceIte, q_nT, Nat.one_ne_zero]
      · have x2 : ¬ t - 1 ≤ i := by omega
        simp only [z, y, y2, x2, x, ↓reduceIte, or_self, q_nT, Nat.one_ne_zero]
  · cases y : isl (c i) with
    | false => simp only [z, ↓reduceIte, Bool.false_eq_true]
    | true =>
      by_cases x : 12 ≤ run c i
      · have x2 : ¬ L < 12 := fun q => by have := hL3.mp q; omega
        simp only [z, ↓reduceIte, q_nT, x, x2, Nat.one_ne_zero]
      · have x2 : L < 12 := hL3.mpr (by omega)
        by_cases v : run c i = 0
        · have v2 := hL2.mpr v
          have x3 : ¬ 12 ≤ 0 := by decide
          by_cases u : 40 ≤ wrd c i
          · have u2 : ¬ wrd c i < 40 := by omega
            have u3 : (0 : Nat) < 12 := by decide
            simp only [z, ↓reduceIte, q_nT, v, v2, u, u2, u3, x3, and_self, i_4, Nat.one_ne_zero]
          · have u2 : wrd c i < 40 := by omega
            have u3 : (0 : Nat) < 12 := by decide
            simp only [z, ↓reduceIte, q_nT, v, v2, u, u2, u3, x3, and_false, Nat.one_ne_zero]
        · have v2 : ¬ L = 0 := fun q => v (hL2.mp q)
          simp only [z, ↓reduceIte, q_nT, x, x2, v, v2, false_and, Nat.one_ne_zero]
end TT1
