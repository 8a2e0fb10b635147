/-! ===== faults ===== -/
def ffr (c : Nat → Nat) (t i : Nat) : Prop := ∀ j, j < i → rsn c t j = 0
def bad (c : Nat → Nat) (t i : Nat) : Bool := !decide (rsn c t i = 0)
def fltI (c : Nat → Nat) (t : Nat) : Nat := fst (bad c t) t
theorem fltI_ff (c : Nat → Nat) (t : Nat) : ffr c t (fltI c t) := fun j hj => by
  have h := fst_no (bad c t) t j hj
  unfold bad at h
  simpa using h
theorem fltI_bad {c : Nat → Nat} {t : Nat} (h : fltI c t < t) : ¬ rsn c t (fltI c t) = 0 := by
  have h2 : (!decide (rsn c t (fltI c t) = 0)) = true := fst_yes (bad c t) t h
  simpa using h2
theorem rsn_0 {c : Nat → Nat} {t i : Nat} (h : rsn c t i = 0) : (c i = 32 ∧ ¬ run c i = 0 ∧ ¬ i = t - 1) ∨ (isl (c i) = true ∧ ¬ c i = 32 ∧ run c i < 12 ∧ (run c i = 0 → wrd c i < 40)) := by
  unfold rsn at h
  by_cases z : c i = 32
  · rw [if_pos z] at h
    by_cases y : run c i = 0 ∨ i = t - 1
    · rw [if_pos y] at h
      omega
    · exact Or.inl ⟨z, fun q => y (Or.inl q), fun q => y (Or.inr q)⟩
  · rw [if_neg z] at h
    cases y : isl (c i) with
    | false =>
      rw [y] at h
      simp at h
    | true =>
      rw [y] at h
      simp only [↓reduceIte] at h
      by_cases x : 12 ≤ run c i
      · rw [if_pos x] at h
        omega
      · rw [if_neg x] at h
        refine Or.inr ⟨rfl, z, by omega, fun q => ?_⟩
        by_cases v : 40 ≤ wrd c i
        · rw [if_pos ⟨q, v⟩] at h
          omega
        · omega
theorem ff_run {c : Nat → Nat} {t : Nat} : ∀ i, ffr c t i → run c i ≤ 12
  | 0, _ => Nat.zero_le _
  | i + 1, h => by
    have h1 := rsn_0 (h i (Nat.lt_succ_self i))
    rw [run]
    split
    · rename_i z
      rcases h1 with h1 | h1
      · rw [h1.1, isl_32] at z
        cases z
      · omega
    · exact Nat.zero_le _
theorem wrd_s (c : Nat → Nat) (i : Nat) : wrd c (i + 1) = wrd c i + (if (isl (c i) && decide (run c i = 0)) = true then 1 else 0) := rfl
theorem ff_wrd {c : Nat → Nat} {t : Nat} : ∀ i, ffr c t i → wrd c i ≤ 40
  | 0, _ => Nat.zero_le _
  | i + 1, h => by
    have ih := ff_wrd i (fun j hj => h j (by omega))
    have h1 := rsn_0 (h i (Nat.lt_succ_self i))
    rw [wrd_s]
    split
    · rename_i z
      have z2 := Bool.and_eq_true_iff.mp z
      rcases h1 with h1 | h1
      · rw [h1.1, isl_32] at z2
        cases z2.1
      · have := h1.2.2.2 (of_decide_eq_true z2.2)
        omega
    · omega
section TT2
variable {C M : kS} {a : kA} {N t : Nat} {c : Nat → Nat}
theorem TxC.cgM {M' : kS} (hT : TxC C M t c) (h3 : M' 3 = M 3) (h4 : M' 0 4 = M 0 4) : TxC C M' t c := by
  unfold TxC
  rw [h3, h4]
  exact hT
theorem m_reasonAt (hT : TxC C M t c) {i : Nat} (hi : i < t) (hff : ffr c t i) : f_X9_reasonAt N M (nI i) (nI (run c i)) (nI (wrd c i)) = some (nI (rsn c t i)) := by
  have ht := hT.1
  have h1 := ff_run i hff
  have h2 := ff_wrd i hff
  obtain ⟨b, _, e3⟩ := hT.2.2.2 i hi
  unfold f_X9_reasonAt rsn
  simp (disch := omega) only [q_gIn, q_cl, e3, i_32, q_eq, m_isLetter, ob, hT.2.2.1, i_0, i_1, i_2, i_3, i_4, i_12, i_40, ↓jn_eq, q_sub]
  by_cases z : c i = 32
  · by_cases y : i = 0
    · have y2 : run c i = 0 := by rw [y]; rfl
      rw [if_pos (show run c i = 0 ∨ i = t - 1 from Or.inl y2), if_pos z, if_pos y, if_pos z]
    · have h3 := rsn_0 (hff (i - 1) (by omega))
      obtain ⟨b2, _, e4⟩ := hT.2.2.2 (i - 1) (by omega)
      have hr : run c i = 0 ↔ c (i - 1) = 32 := by
        rw [run0]
        constructor
        · intro q
          rcases q with q | q
          · exact absurd q y
          · rcases h3 with h3 | h3
            · exact h3.1
            · rw [h3.1] at q
              cases q
        · intro q
          rw [q]
          exact Or.inr isl_32
      simp (disch := omega) only [z, y, ↓reduceIte, q_gIn, q_cl, e4, q_eq]
      by_cases x : c (i - 1) = 32
      · rw [if_pos (show run c i = 0 ∨ i = t - 1 from Or.inl (hr.mpr x))]
        simp only [x, ↓reduceIte]
      · by_cases v : i = t - 1
        · rw [if_pos (show run c i = 0 ∨ i = t - 1 from Or.inr v), if_neg x, if_pos v]
        · rw [if_neg (show ¬ (run c i = 0 ∨ i = t - 1) from fun q => by
            rcases q with q | q
            · exact x (hr.mp q)
            · exact v q), if_neg x, if_neg v]
  · cases y : isl (c i) with
    | false => simp only [z, ↓reduceIte, Bool.false_eq_true]
    | true =>
      by_cases x : run c i = 12
      · have x2 : 12 ≤ run c i := by omega
        simp only [z, ↓reduceIte, q_nT, x, Nat.le_refl, Nat.one_ne_zero]
      · have x2 : ¬ 12 ≤ run c i := by omega
        by_cases v : run c i = 0
        · by_cases u : wrd c i = 40
          · simp only [z, ↓reduceIte, q_nT, x2, v, u, and_self, Nat.one_ne_zero, Nat.le_refl, Nat.reduceEqDiff, Nat.reduceLeDiff]
          · have u2 : ¬ 40 ≤ wrd c i := by omega
            simp only [z, ↓reduceIte, q_nT, x2, v, u, u2, and_false, Nat.one_ne_zero, Nat.reduceEqDiff, Nat.reduceLeDiff]
        · simp only [z, ↓reduceIte, q_nT, x, x2, v, false_and, Nat.one_ne_zero]
theorem m_faultAt (hT : TxC C M t c) (hN : 3000 ≤ N) : ∃ M', f_X9_faultAt N M = some ((if fltI c t < t then nI (fltI c t) else -14), M') ∧ (∀ j, j ≠ 0 → M' j = M j) ∧ (∀ j, j ≠ 5 → M' 0 j = M 0 j) ∧ (fltI c t < t → M' 0 5 = nI (rsn c t (fltI c t))) := by
  have ht := hT.1
  have hff := fltI_ff c t
  have hle : fltI c t ≤ t := fst_le _ _
  unfold f_X9_faultAt
  simp only [↓jn_eq, i_0]
  obtain ⟨⟨x3, x4, D⟩, n, ⟨g1, g2, b0, b1⟩, e⟩ := lpN (fun n i (y : Int32 × Int32 × kS) => lp_X9_faultAt_6 N (fun C1 => some (-14, C1)) n y.1 y.2.1 (nI i) y.2.2) (fun i y => y.1 = nI (run c i) ∧ y.2.1 = nI (wrd c i) ∧ (∀ j, j ≠ 0 → y.2.2 j = M j) ∧ ∀ j, j ≠ 5 → y.2.2 0 j = M 0 j) (fltI c t) (fun n i y hi hI => by
    obtain ⟨x3, x4, D⟩ := y
    obtain ⟨g1, g2, b0, b1⟩ := hI
    simp only at g1 g2 b0 b1
    subst g1
    subst g2
    have hTD : TxC C D t c := hT.cgM (b0 3 (by decide)) (b1 4 (by decide))
    have hr0 := hff i hi
    have hri := m_reasonAt (N := N) hTD (i := i) (by omega) (fun j hj => hff j (by omega))
    rw [hr0] at hri
    refine ⟨(nI (run c (i + 1)), nI (wrd c (i + 1)), up1 D 0 (upd (D 0) 5 (nI 0))), ⟨rfl, rfl, fun j hj => ?_, fun j hj => ?_⟩, ?_⟩
    · simp only []
      rw [up1_n hj]
      exact b0 j hj
    · simp only []
      rw [up1_s, pk_un hj]
      exact b1 j hj
    · show lp_X9_faultAt_6 N _ (n + 1) (nI (run c i)) (nI (wrd c i)) (nI i) D = lp_X9_faultAt_6 N _ n (nI (run c (i + 1))) (nI (wrd c (i + 1))) (nI (i + 1)) (up1 D 0 (upd (D 0) 5 (nI 0)))
      obtain ⟨b, _, e3⟩ := hTD.2.2.2 i (by omega)
      have hrl := run_le c i
      have hwl := wrd_le c i
      rw [lp_X9_faultAt_6, hTD.2.2.1, hri, wrd_s, run]
      simp (disch := omega) only [q_le, if_neg, ob, ↓jn_eq, up1_s, pk_us, i_0, Nat.le_refl, ↓reduceIte, q_gIn, q_cl, up1_n (show (3 : Nat) ≠ 0 by decide), e3, i_32, q_eq, i_1]
      rcases rsn_0 hr0 with h1 | h1
      · simp only [h1.1, isl_32, ↓reduceIte, Bool.false_eq_true, Bool.false_and, nI_add]
      · by_cases v : run c i = 0
        · simp only [h1.2.1, h1.1, ↓reduceIte, v, decide_true, Bool.and_self, nI_add]
        · simp only [h1.2.1, h1.1, ↓reduceIte, v, decide_false, Bool.and_false, Bool.false_eq_true, nI_add]) (N := N) 0 (nI 0, nI 0, M) (Nat.zero_le _) (by omega) ⟨rfl, rfl, fun j _ => rfl, fun j _ => rfl⟩
  simp only at g1 g2 b0 b1
  have e2 : lp_X9_faultAt_6 N (fun C1 => some (-14, C1)) N (nI 0) (nI 0) (nI 0) M = lp_X9_faultAt_6 N (fun C1 => some (-14, C1)) (n + 1) (nI (run c (fltI c t))) (nI (wrd c (fltI c t))) (nI (fltI c t)) D := by rw [← g1, ← g2]; exact e
  have hTD : TxC C D t c := hT.cgM (b0 3 (by decide)) (b1 4 (by decide))
  by_cases z : fltI c t < t
  · have hri := m_reasonAt (N := N) hTD z hff
    have hbad := fltI_bad z
    have hrb : rsn c t (fltI c t) ≤ 4 := by
      unfold rsn
      repeat' split
      all_goals omega
    refine ⟨up1 D 0 (upd (D 0) 5 (nI (rsn c t (fltI c t)))), ?_, fun j hj => ?_, fun j hj => ?_, fun _ => ?_⟩
    · rw [e2, if_pos z, lp_X9_faultAt_6, hTD.2.2.1, hri]
      simp (disch := omega) only [q_le, if_neg, ob, ↓jn_eq, up1_s, pk_us, i_0, Nat.le_zero_eq]
    · rw [up1_n hj]; exact b0 j hj
    · rw [up1_s, pk_un hj]; exact b1 j hj
    · rw [up1_s, pk_us]
  · have z2 : fltI c t = t := by omega
    refine ⟨D, ?_, b0, b1, fun q => absurd q z⟩
    rw [e2, if_neg z, lp_X9_faultAt_6, hTD.2.2.1, z2]
    simp (disch := omega) only [q_le, Nat.le_refl, ↓reduceIte]
theorem x_faultIndex (hT : TxC C M t c) (hN : 3000 ≤ N) : f_X6_faultIndex N C = some (if fltI c t < t then nI (fltI c t) else -nI 1) := by
  have ht := hT.1
  unfold f_X6_faultIndex
  simp only [↓jn_eq]
  rw [i_0, i_m1]
  refine (lpX (fun n i => lp_X6_faultIndex_2 N C (some (-nI 1)) n (nI i)) t (bad c t) (fun i => some (nI i)) (some (-nI 1)) (fun n i hi hp => ?_) (fun n i hi hp => ?_) (fun n => ?_) (N := N) (by omega)).trans ?_
  · show lp_X6_faultIndex_2 N C (some (-nI 1)) (n + 1) (nI i) = lp_X6_faultIndex_2 N C (some (-nI 1)) n (nI (i + 1))
    have h0 : rsn c t i = 0 := by unfold bad at hp; simpa using hp
    rw [lp_X6_faultIndex_2, hT.2.1]
    simp (disch := omega) only [q_le, if_neg, x_reason hT hi hN, h0, ob, i_0, i_1, ↓reduceIte, nI_add]
  · show lp_X6_faultIndex_2 N C (some (-nI 1)) (n + 2) (nI i) = some (nI i)
    have h0 : ¬ rsn c t i = 0 := by unfold bad at hp; simpa using hp
    have hrb : rsn c t i ≤ 4 := by
      unfold rsn
      repeat' split
      all_goals omega
    rw [lp_X6_faultIndex_2, hT.2.1]
    simp (disch := omega) only [q_le, if_neg, x_reason hT hi hN, ob, i_0, q_eq]
  · show lp_X6_faultIndex_2 N C (some (-nI 1)) (n + 1) (nI t) = _
    rw [lp_X6_faultIndex_2, hT.2.1]
    simp (disch := omega) only [q_le, Nat.le_refl, ↓reduceIte]
  · show (if fltI c t < t then some (nI (fltI c t)) else some (-nI 1)) = _
    split <;> rfl
theorem J_fault (hT : TxC C M t c) (v : Int32) (hN : 3000 ≤ N) : ∃ r M', f_X8_fault N C v = some r ∧ f_X9_fault N M v = some (r, M') ∧ (∀ j, j ≠ 0 → M' j = M j) ∧ ∀ j, j ≠ 5 → M' 0 j = M 0 j := by
  have ht := hT.1
  unfold f_X8_fault f_X9_fault
  rcases sg v with hv | ⟨k, hk, rfl⟩
  · refine ⟨-11, M, ?_, ?_, fun _ _ => rfl, fun _ _ => rfl⟩
    · rw [if_pos hv]
    · rw [i_0, i_1, m_inG hv (by decide), ob, if_pos rfl]
  · by_cases k1 : k ≤ 1
    · obtain ⟨M', e1, b0, b1, b2⟩ := m_faultAt (N := N) hT hN
      have hle : fltI c t ≤ t := fst_le _ _
      rw [if_neg (nI_pos hk), i_0, i_1, m_inN hk (by decide) (by decide), e1, x_faultIndex hT hN]
      by_cases z : fltI c t < t
      · rw [if_pos z, if_pos z]
        by_cases k0 : k = 0
        · refine ⟨nI (fltI c t), M', ?_, ?_, b0, b1⟩
          · simp (disch := omega) only [q_le, k1, ↓reduceIte, ob, Nat.zero_le, ↓jn_eq, k0]
          · simp (disch := omega) only [k0, Nat.zero_le, and_self, ↓reduceIte, ob, q_nT, ↓jn_eq, q_m14]
        · refine ⟨nI (rsn c t (fltI c t)), M', ?_, ?_, b0, b1⟩
          · simp (disch := omega) only [q_le, k1, ↓reduceIte, ob, Nat.zero_le, ↓jn_eq, k0, q_eq, x_reason hT z hN]
          · simp (disch := omega) only [k1, k0, q_eq, Nat.zero_le, and_self, ↓reduceIte, ob, q_nT, ↓jn_eq, q_m14, b2 z, Nat.one_ne_zero]
      · rw [if_neg z, if_neg z]
        refine ⟨-14, M', ?_, ?_, b0, b1⟩
        · simp (disch := omega) only [q_le, k1, ↓reduceIte, ob, q_le1n]
        · simp (disch := omega) only [k1, Nat.zero_le, and_self, ↓reduceIte, ob, q_nT, ↓jn_eq]
    · refine ⟨-11, M, ?_, ?_, fun _ _ => rfl, fun _ _ => rfl⟩
      · rw [if_neg (nI_pos hk), i_1, if_neg (fun q => k1 ((nI_leI hk (by decide)).mp q))]
      · rw [i_0, i_1, m_inN hk (by decide) (by decide), ob, if_neg (show ¬ (0 ≤ k ∧ k ≤ 1) from fun q => k1 q.2), if_pos rfl]
theorem J_type (hT : TxC C M t c) (v : Int32) : ∃ r C' M' t' c', f_X8_type N C v = some (r, C') ∧ f_X9_type N M v = some (r, M') ∧ TxC C' M' t' c' ∧ (∀ j, j ≠ 1 → j ≠ 3 → C' j = C j) ∧ (∀ j, j ≠ 0 → j ≠ 3 → M' j = M j) ∧ ∀ j, j ≠ 4 → M' 0 j = M 0 j := by
  obtain ⟨ht, h1, h2, h3⟩ := id hT
  unfold f_X8_type f_X9_type
  rcases sg v with hv | ⟨k, hk, rfl⟩
  · refine ⟨-11, C, M, t, c, ?_, ?_, hT, fun _ _ _ => rfl, fun _ _ _ => rfl, fun _ _ => rfl⟩
    · rw [i_32, if_pos (by rw [ngLt hv (by decide)]; trivial)]
    · rw [i_32, i_126, m_inG hv (by decide), ob, i_0, if_pos rfl]
  · rw [i_32, i_126, m_inN hk (by decide) (by decide), ob]
    by_cases y : 32 ≤ k ∧ k ≤ 126
    · rw [if_neg (fun q => by have := (nI_ltI hk (by decide)).mp q; omega), if_pos ((nI_leI hk (by decide)).mpr y.2), if_pos y, i_0, if_neg (by rw [q_nT]; exact not_false)]
      unfold f_X6_size
      rw [ob, h1, h2, i_200]
      by_cases z : t = 200
      · refine ⟨-13, C, M, t, c, ?_, ?_, hT, fun _ _ _ => rfl, fun _ _ _ => rfl, fun _ _ => rfl⟩
        · rw [if_neg (fun q => by have := (nI_ltI (by omega) (by decide)).mp q; omega)]
        · rw [z, if_pos rfl]
      · have z2 : ¬ nI t = nI 200 := fun q => z ((nI_eq (by omega) (by decide)).mp q)
        refine ⟨nI (t + 1), up1 (up1 C 3 (upd (C 3) t (nI k))) 1 (upd (C 1) 1 (nI (t + 1))), up1 (up1 M 3 (upd (M 3) t (nI k))) 0 (upd (M 0) 4 (nI (t + 1))), t + 1, fun i => if i = t then k else c i, ?_, ?_, ⟨by omega, ?_, ?_, fun i hi => ?_⟩, fun j j1 j3 => by rw [up1_n j1, up1_n j3], fun j j0 j3 => by rw [up1_n j0, up1_n j3], fun j j4 => ?_⟩
        · rw [if_pos ((nI_ltI (by omega) (by decide)).mpr (by omega))]
          unfold f_X6_append
          rw [h1, i_200, if_neg (fun q => by have := (nI_leI (by decide) (by omega)).mp q; omega), x_put (k := 2) (n := 200) rfl (by omega) (by decide)]
          simp only [ob, ↓jn_eq, up1_n (show (1 : Nat) ≠ 3 by decide), up1_n (show (1 : Nat) ≠ 2 + 1 by decide), h1, i_1, nI_add, up1_s, pk_us]
        · rw [if_neg z2]
          simp (disch := omega) only [q_gIn, q_cl, ↓jn_eq, up1_n (show (0 : Nat) ≠ 3 by decide), h2, i_1, nI_add, up1_s, pk_us]
        · rw [up1_s, pk_us]
        · rw [up1_s, pk_us]
        · rw [up1_n (show (3 : Nat) ≠ 1 by decide), up1_s, up1_n (show (3 : Nat) ≠ 0 by decide), up1_s]
          by_cases x : i = t
          · subst x
            simp only [↓reduceIte, pk_us]
            exact ⟨y, trivial, trivial⟩
          · simp only [x, ↓reduceIte, pk_un x]
            exact h3 i (by omega)
        · rw [up1_s, pk_un j4]
    · refine ⟨-11, C, M, t, c, ?_, ?_, hT, fun _ _ _ => rfl, fun _ _ _ => rfl, fun _ _ => rfl⟩
      · by_cases z : k < 32
        · rw [if_pos ((nI_ltI hk (by decide)).mpr z)]
        · rw [if_neg (fun q => z ((nI_ltI hk (by decide)).mp q)), if_neg (fun q => by have := (nI_leI hk (by decide)).mp q; omega)]
      · rw [if_neg y, i_0, if_pos rfl]
theorem J_clear (hT : TxC C M t c) : ∃ r C' M' t' c', f_X8_clearText N C = some (r, C') ∧ f_X9_clearText N M = some (r, M') ∧ TxC C' M' t' c' ∧ (∀ j, j ≠ 1 → j ≠ 3 → C' j = C j) ∧ (∀ j, j ≠ 0 → j ≠ 3 → M' j = M j) ∧ ∀ j, j ≠ 4 → M' 0 j = M 0 j := by
  obtain ⟨ht, h1, h2, h3⟩ := id hT
  unfold f_X8_clearText f_X9_clearText f_X6_size f_X6_empty
  refine ⟨nI t, up1 C 1 (upd (C 1) 1 (nI 0)), up1 M 0 (upd (M 0) 4 (nI 0)), 0, c, ?_, ?_, ⟨Nat.zero_le _, ?_, ?_, fun i hi => absurd hi (Nat.not_lt_zero i)⟩, fun j j1 _ => up1_n j1, fun j j0 _ => up1_n j0, fun j j4 => ?_⟩
  · simp only [ob, ↓jn_eq, h1, i_0]
  · simp only [↓jn_eq, h2, i_0]
  · rw [up1_s, pk_us]
  · rw [up1_s, pk_us]
  · rw [up1_s, pk_un j4]
end TT2
