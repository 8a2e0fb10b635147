/-! ===== name and ending ===== -/
def oneW (c : Nat → Nat) (t ml : Nat) : Bool := decide (1 ≤ t ∧ t ≤ ml) && allB (fun i => isl (c i)) t
def eqW (a : kA) (base wide t : Nat) (c : Nat → Nat) (w : Nat) : Bool := decide (a (base + wide * w) = t) && allB (fun k => decide (a (base + wide * w + 1 + k) = c k - 97)) t
theorem oneW_t {c : Nat → Nat} {t ml : Nat} (h : oneW c t ml = true) : (1 ≤ t ∧ t ≤ ml) ∧ ∀ i, i < t → isl (c i) = true := by
  have h1 := Bool.and_eq_true_iff.mp h
  exact ⟨of_decide_eq_true h1.1, (allB_iff _ _).mp h1.2⟩
theorem run_all {c : Nat → Nat} {t : Nat} (h : ∀ i, i < t → isl (c i) = true) : ∀ i, i ≤ t → run c i = i
  | 0, _ => rfl
  | i + 1, hi => by rw [run, h i (by omega), if_pos rfl, run_all h i (by omega)]
section NN1
variable {C M : kS} {a : kA} {N t h ci base wide mw ml k : Nat} {c : Nat → Nat} {p : Nat → Nat} {bs : Nat → kA}
theorem x_oneWord (hT : TxC C M t c) (hml : ml ≤ 100) (hN : 3000 ≤ N) : f_X6_isOneWord N C (nI ml) = some (nI (if oneW c t ml = true then 1 else 0)) := by
  have ht := hT.1
  unfold f_X6_isOneWord oneW
  rw [hT.2.1, i_1, i_0, q_and0, q_and1]
  by_cases y : t < 1
  · have y2 : ¬ (1 ≤ t ∧ t ≤ ml) := by omega
    simp (disch := omega) only [q_lt, y, y2, ↓reduceIte, decide_false, Bool.false_and, Bool.false_eq_true]
  · by_cases z : t ≤ ml
    · have y2 : 1 ≤ t ∧ t ≤ ml := by omega
      simp (disch := omega) only [q_lt, q_le, y, z, y2, ↓reduceIte, ↓jn_eq, and_self, decide_true, Bool.true_and]
      refine (lpX (fun n i => lp_X6_isOneWord_20 N C (some (nI 1)) n (nI i)) t (fun i => !isl (c i)) (fun _ => some (nI 0)) (some (nI 1)) (fun n i hi hp => ?_) (fun n i hi hp => ?_) (fun n => ?_) (N := N) (by omega)).trans ?_
      · show lp_X6_isOneWord_20 N C (some (nI 1)) (n + 1) (nI i) = lp_X6_isOneWord_20 N C (some (nI 1)) n (nI (i + 1))
        have hp2 : isl (c i) = true := by simpa using hp
        have hb := (hT.2.2.2 i hi).1
        rw [lp_X6_isOneWord_20, hT.2.1]
        simp (disch := omega) only [q_le, Nat.not_le.mpr hi, ↓reduceIte, x_chr hT (i := i), ob, x_isLetter, hp2, i_0, i_1, q_nT, nI_add]
      · show lp_X6_isOneWord_20 N C (some (nI 1)) (n + 2) (nI i) = some (nI 0)
        have hp2 : isl (c i) = false := by simpa using hp
        have hb := (hT.2.2.2 i hi).1
        rw [lp_X6_isOneWord_20, hT.2.1]
        simp (disch := omega) only [q_le, Nat.not_le.mpr hi, ↓reduceIte, x_chr hT (i := i), ob, x_isLetter, hp2, i_0, i_1, q_and0, Bool.false_eq_true]
      · show lp_X6_isOneWord_20 N C (some (nI 1)) (n + 1) (nI t) = some (nI 1)
        rw [lp_X6_isOneWord_20, hT.2.1]
        simp (disch := omega) only [q_le, Nat.le_refl, ↓reduceIte]
      · rw [allB_fst]
        by_cases x : fst (fun i => !isl (c i)) t < t
        · simp only [x, ↓reduceIte, not_true, decide_false, Bool.false_eq_true]
        · simp only [x, ↓reduceIte, not_false_iff, decide_true]
    · have y2 : ¬ (1 ≤ t ∧ t ≤ ml) := by omega
      simp (disch := omega) only [q_lt, q_le, y, z, ↓reduceIte, decide_false, and_false, Bool.false_and, Bool.false_eq_true]
theorem m_oneWord (hT : TxC C M t c) (hml : ml ≤ 100) (hN : 3000 ≤ N) : f_X9_areLetters N M (nI ml) = some (nI (if oneW c t ml = true then 1 else 0)) := by
  have ht := hT.1
  unfold f_X9_areLetters
  rw [hT.2.2.1, i_1, m_inN (by omega) (by decide) (by omega), ob, i_0]
  simp only [↓jn_eq]
  have hs := lpE (N := N) (fun n x y => lp_X9_areLetters_12 N M (fun x3 => some (x3 &&& nI 1)) n x y) (fun i => if (decide (1 ≤ t ∧ t ≤ ml) && allB (fun i => isl (c i)) i) = true then 1 else 0) t (R := some (nI (if oneW c t ml = true then 1 else 0))) (by omega) (fun n i hi => ?_) (fun n => ?_)
  · refine Eq.trans ?_ hs
    simp only [allB, Bool.and_true, decide_eq_true_eq]
  · have hb := (hT.2.2.2 i hi).1
    have e3 := (hT.2.2.2 i hi).2.2
    rw [lp_X9_areLetters_12, allB, hT.2.2.1, ← Bool.and_assoc]
    generalize (decide (1 ≤ t ∧ t ≤ ml) && allB (fun i => isl (c i)) i) = T
    cases T with
    | false => simp (disch := omega) only [q_le, Nat.not_le.mpr hi, ↓reduceIte, ↓jn_eq, i_0, i_1, Bool.false_eq_true, Bool.false_and, nI_add]
    | true =>
      cases z : isl (c i) with
      | true => simp (disch := omega) only [q_le, Nat.not_le.mpr hi, ↓reduceIte, ↓jn_eq, i_0, i_1, q_nT, q_gIn, q_cl, e3, m_isLetter, z, ob, Bool.and_self, nI_add]
      | false => simp (disch := omega) only [q_le, Nat.not_le.mpr hi, ↓reduceIte, ↓jn_eq, i_0, i_1, q_nT, q_gIn, q_cl, e3, m_isLetter, z, ob, Bool.and_false, Bool.false_eq_true, nI_add]
  · rw [lp_X9_areLetters_12, hT.2.2.1]
    simp (disch := omega) only [q_le, Nat.le_refl, ↓reduceIte]
    unfold oneW
    split
    · rw [q_and1]
    · rw [show nI 0 &&& nI 1 = nI 0 from by decide]
theorem x_isWord (hT : TxC C M t c) (hW : WdC C k mw ml a (a ci) base wide) (hwl : WL a base wide ml (a ci)) (l2 : ln (k + 2) = mw * ml) (l4 : ln (k + 4) = mw) (hm : mw ≤ 40) (hm2 : ml ≤ 12) (hn : a ci ≤ mw) (hl : ∀ i, i < t → isl (c i) = true) {w : Nat} (hw : w < a ci) (hN : 3000 ≤ N) : f_X7_isWord N C k (nI w) = some (nI (if eqW a base wide t c w = true then 1 else 0)) := by
  have ht := hT.1
  have b := hwl w hw
  have hsz : f_X6_size N C = some (nI t) := by unfold f_X6_size; rw [hT.2.1]
  unfold f_X7_isWord
  rw [x_lengthOf hW l4 hm hn hw, ob, hsz, ob, i_0, i_1, q_and0, q_and1]
  simp (disch := omega) only [q_eq, jn_eq]
  unfold eqW
  by_cases z : a (base + wide * w) = t
  · simp only [z, ↓reduceIte, decide_true, Bool.true_and]
    refine (lpX (fun n i => lp_X7_isWord_16 N C k (nI w) (some (nI 1)) n (nI i)) t (fun i => !decide (a (base + wide * w + 1 + i) = c i - 97)) (fun _ => some (nI 0)) (some (nI 1)) (fun n i hi hp => ?_) (fun n i hi hp => ?_) (fun n => ?_) (N := N) (by omega)).trans ?_
    · show lp_X7_isWord_16 N C k (nI w) (some (nI 1)) (n + 1) (nI i) = lp_X7_isWord_16 N C k (nI w) (some (nI 1)) n (nI (i + 1))
      have hp2 : a (base + wide * w + 1 + i) = c i - 97 := by simpa using hp
      have h97 : 97 ≤ c i ∧ c i ≤ 122 := of_decide_eq_true (hl i hi)
      have hat : f_X6_at N C (nI i) = some (nI (c i)) := by unfold f_X6_at; rw [x_chr hT hi, ob]
      rw [lp_X7_isWord_16, hsz, x_letterOf hW l2 hm hm2 hn hw (by omega) b.1.2, hat, hp2]
      simp (disch := omega) only [ob, q_le, Nat.not_le.mpr hi, ↓reduceIte]
      rw [show 97 + (c i - 97) = c i by omega, if_pos rfl, i_1, nI_add]
    · show lp_X7_isWord_16 N C k (nI w) (some (nI 1)) (n + 2) (nI i) = some (nI 0)
      have hp2 : ¬ a (base + wide * w + 1 + i) = c i - 97 := by simpa using hp
      have h97 : 97 ≤ c i ∧ c i ≤ 122 := of_decide_eq_true (hl i hi)
      have hat : f_X6_at N C (nI i) = some (nI (c i)) := by unfold f_X6_at; rw [x_chr hT hi, ob]
      have b2 := b.2 i (by omega)
      rw [lp_X7_isWord_16, hsz, x_letterOf hW l2 hm hm2 hn hw (by omega) b.1.2, hat]
      simp (disch := omega) only [ob, q_le, Nat.not_le.mpr hi, ↓reduceIte]
      rw [if_neg (fun q => hp2 (by have := (nI_eq (by omega) (by omega)).mp q; omega)), i_0, i_1, q_and0]
    · show lp_X7_isWord_16 N C k (nI w) (some (nI 1)) (n + 1) (nI t) = some (nI 1)
      rw [lp_X7_isWord_16, hsz]
      simp (disch := omega) only [ob, q_le, Nat.le_refl, ↓reduceIte]
    · rw [allB_fst]
      by_cases x : fst (fun i => !decide (a (base + wide * w + 1 + i) = c i - 97)) t < t
      · simp only [x, ↓reduceIte, not_true, decide_false, Bool.false_eq_true]
      · simp only [x, ↓reduceIte, not_false_iff, decide_true]
  · simp only [z, ↓reduceIte, decide_false, Bool.false_and, Bool.false_eq_true]
theorem x_hasWord (hT : TxC C M t c) (hW : WdC C k mw ml a (a ci) base wide) (hwl : WL a base wide ml (a ci)) (l2 : ln (k + 2) = mw * ml) (l4 : ln (k + 4) = mw) (hm : mw ≤ 40) (hm2 : ml ≤ 12) (hn : a ci ≤ mw) (hl : ∀ i, i < t → isl (c i) = true) (hN : 3000 ≤ N) : f_X7_hasWord N C k = some (nI (if fst (eqW a base wide t c) (a ci) < a ci then 1 else 0)) := by
  unfold f_X7_hasWord
  simp only [jn_eq]
  rw [i_0, i_1, q_and0]
  refine (lpX (fun n i => lp_X7_hasWord_2 N C k (some (nI 0)) n (nI i)) (a ci) (eqW a base wide t c) (fun _ => some (nI 1)) (some (nI 0)) (fun n i hi hp => ?_) (fun n i hi hp => ?_) (fun n => ?_) (N := N) (by omega)).trans ?_
  · show lp_X7_hasWord_2 N C k (some (nI 0)) (n + 1) (nI i) = lp_X7_hasWord_2 N C k (some (nI 0)) n (nI (i + 1))
    rw [lp_X7_hasWord_2, hW.2.2.1, x_isWord hT hW hwl l2 l4 hm hm2 hn hl hi hN, hp]
    simp (disch := omega) only [q_le, Nat.not_le.mpr hi, ↓reduceIte, ob, i_0, i_1, Bool.false_eq_true, nI_add]
  · show lp_X7_hasWord_2 N C k (some (nI 0)) (n + 2) (nI i) = some (nI 1)
    rw [lp_X7_hasWord_2, hW.2.2.1, x_isWord hT hW hwl l2 l4 hm hm2 hn hl hi hN, hp]
    simp (disch := omega) only [q_le, Nat.not_le.mpr hi, ↓reduceIte, ob, i_0, i_1, q_nT, q_and1]
  · show lp_X7_hasWord_2 N C k (some (nI 0)) (n + 1) (nI (a ci)) = some (nI 0)
    rw [lp_X7_hasWord_2, hW.2.2.1]
    simp (disch := omega) only [q_le, Nat.le_refl, ↓reduceIte]
  · split <;> rfl
theorem m_isText (hT : TxC C M t c) (hM : SM M a) (hwl : WL a base wide ml (a ci)) (hwd : wide = ml + 1) (hn : a ci ≤ mw) (hfit : base + wide * mw ≤ 642) (hl : ∀ i, i < t → isl (c i) = true) {w : Nat} (hw : w < a ci) (hN : 3000 ≤ N) : f_X9_isText N M (nI (base + wide * w)) = some (nI (if eqW a base wide t c w = true then 1 else 0)) := by
  have ht := hT.1
  have b := hwl w hw
  have hm := wm (wide := wide) (show w < mw by omega)
  unfold f_X9_isText
  simp (disch := omega) only [q_gIn, q_cl, hM _, hT.2.2.1, q_eq, ↓jn_eq]
  unfold eqW
  by_cases z : a (base + wide * w) = t
  · simp only [z, ↓reduceIte, decide_true, Bool.true_and]
    rw [i_0, i_1]
    refine (lpX (fun n i => lp_X9_isText_21 N M (nI (base + wide * w)) (fun x4 => some (x4 &&& nI 1)) n (nI 1) (nI i)) t (fun i => !decide (a (base + wide * w + 1 + i) = c i - 97)) (fun _ => some (nI 0)) (some (nI 1)) (fun n i hi hp => ?_) (fun n i hi hp => ?_) (fun n => ?_) (N := N) (by omega)).trans ?_
    · show lp_X9_isText_21 N M (nI (base + wide * w)) (fun x4 => some (x4 &&& nI 1)) (n + 1) (nI 1) (nI i) = lp_X9_isText_21 N M (nI (base + wide * w)) (fun x4 => some (x4 &&& nI 1)) n (nI 1) (nI (i + 1))
      have hp2 : a (base + wide * w + 1 + i) = c i - 97 := by simpa using hp
      have h97 : 97 ≤ c i ∧ c i ≤ 122 := of_decide_eq_true (hl i hi)
      have e3 := (hT.2.2.2 i hi).2.2
      rw [lp_X9_isText_21]
      simp (disch := omega) only [q_gIn, q_cl, hM _, z, q_le, Nat.not_le.mpr hi, ↓reduceIte, i_0, q_nT, i_1, nI_add, e3, i_97, q_sub, hp2, ↓jn_eq]
    · show lp_X9_isText_21 N M (nI (base + wide * w)) (fun x4 => some (x4 &&& nI 1)) (n + 2) (nI 1) (nI i) = some (nI 0)
      have hp2 : ¬ a (base + wide * w + 1 + i) = c i - 97 := by simpa using hp
      have h97 : 97 ≤ c i ∧ c i ≤ 122 := of_decide_eq_true (hl i hi)
      have b2 := b.2 i (by omega)
      have e3 := (hT.2.2.2 i hi).2.2
      rw [lp_X9_isText_21]
      simp (disch := omega) only [q_gIn, q_cl, hM _, z, q_le, Nat.not_le.mpr hi, ↓reduceIte, i_0, q_nT, i_1, nI_add, e3, i_97, q_sub, hp2, ↓jn_eq, q_eq, Nat.one_ne_zero]
      rw [lp_X9_isText_21]
      simp (disch := omega) only [q_gIn, q_cl, hM _, z, ↓reduceIte, i_0, ite_self, q_and0]
    · show lp_X9_isText_21 N M (nI (base + wide * w)) (fun x4 => some (x4 &&& nI 1)) (n + 1) (nI 1) (nI t) = some (nI 1)
      rw [lp_X9_isText_21]
      simp (disch := omega) only [q_gIn, q_cl, hM _, z, q_le, Nat.le_refl, ↓reduceIte, q_and1]
    · rw [allB_fst]
      by_cases x : fst (fun i => !decide (a (base + wide * w + 1 + i) = c i - 97)) t < t
      · simp only [x, ↓reduceIte, not_true, decide_false, Bool.false_eq_true]
      · simp only [x, ↓reduceIte, not_false_iff, decide_true]
  · obtain ⟨n, hn2⟩ : ∃ n, N = n + 1 := ⟨N - 1, by omega⟩
    have e1 : ∀ n, lp_X9_isText_21 N M (nI (base + wide * w)) (fun x4 => some (x4 &&& 1)) (n + 1) (nI 0) (nI 0) = some (nI 0) := fun n => by
      rw [lp_X9_isText_21]
      simp (disch := omega) only [q_gIn, q_cl, hM _, i_0, i_1, ↓reduceIte, ite_self, q_and0]
    simp only [z, ↓reduceIte, decide_false, Bool.false_and, Bool.false_eq_true]
    have e2 := e1 n
    rw [← hn2] at e2
    exact e2
theorem pgG_all (hci : ci < base) (hl : ∀ i, i < t → isl (c i) = true) : ∀ i, i + 1 ≤ t → ∀ j, pgG ci base wide a c (i + 1) j = if j = ci then a ci + 1 else if j = base + wide * a ci then i + 1 else if base + wide * a ci + 1 ≤ j ∧ j < base + wide * a ci + 1 + (i + 1) then c (j - (base + wide * a ci + 1)) - 97 else a j
  | 0, h => fun j => by
    rw [pgG, hl 0 (by omega), if_pos rfl]
    show addL ci base wide a (a ci) 0 (c 0 - 97) j = _
    by_cases z1 : j = ci
    · rw [z1, addL_ci hci, if_pos rfl]
    · rw [if_neg z1]
      by_cases z2 : j = base + wide * a ci
      · rw [z2, addL_at, if_pos rfl]
      · rw [if_neg z2]
        by_cases z3 : j = base + wide * a ci + (0 + 1)
        · rw [if_pos (by omega), show j - (base + wide * a ci + 1) = 0 by omega, z3, addL_x]
        · rw [if_neg (by omega), addL_o z1 z2 z3]
  | i + 1, h => fun j => by
    have ih := pgG_all hci hl i (by omega)
    have hr := run_all hl (i + 1) (by omega)
    rw [pgG, hl (i + 1) (by omega), if_pos rfl, hr]
    have h0 : pgG ci base wide a c (i + 1) ci = a ci + 1 := by rw [ih ci, if_pos rfl]
    have h1 : lstW ci (pgG ci base wide a c (i + 1)) (i + 1) = a ci := by
      unfold lstW
      rw [if_neg (Nat.succ_ne_zero i), h0, Nat.add_sub_cancel]
    rw [h1]
    by_cases z1 : j = ci
    · rw [z1, addL_ci hci, if_pos rfl]
    · rw [if_neg z1]
      by_cases z2 : j = base + wide * a ci
      · rw [z2, addL_at, if_pos rfl]
      · rw [if_neg z2]
        by_cases z3 : j = base + wide * a ci + (i + 1 + 1)
        · rw [if_pos (by omega), show j - (base + wide * a ci + 1) = i + 1 by omega, z3, addL_x]
        · rw [addL_o z1 z2 z3, ih j, if_neg z1, if_neg z2]
          by_cases z4 : base + wide * a ci + 1 ≤ j ∧ j < base + wide * a ci + 1 + (i + 1)
          · rw [if_pos z4, if_pos (by omega)]
          · rw [if_neg z4, if_neg (by omega)]
end NN1
