/-! ===== both programs' answers: stepFor, modeFor ===== -/
section JJ5
variable {C M : kS} {a : kA} {N m st : Nat}
theorem few_ge (a : kA) (m st : Nat) {k : Nat} (hk : k ≤ 8) : ∀ n, (k ≤ few a m st n ↔ ∀ w, w < n → hid a w = true → k ≤ pop (nuM a m st (sh a m st w)))
  | 0 => ⟨fun _ w hw => absurd hw (Nat.not_lt_zero w), fun _ => hk⟩
  | n + 1 => by
    have ih := few_ge a m st hk n
    rw [few]
    constructor
    · intro h w hw hh
      have h1 : k ≤ few a m st n := by
        by_cases z : few a m st n ≤ (if hid a n = true then pop (nuM a m st (sh a m st n)) else 8)
        · rw [if_pos z] at h
          exact h
        · rw [if_neg z] at h
          omega
      rcases Nat.lt_or_ge w n with q | q
      · exact ih.mp h1 w q hh
      · have e : w = n := by omega
        subst e
        rw [hh] at h
        simp only [↓reduceIte] at h
        by_cases z : few a m st w ≤ pop (nuM a m st (sh a m st w))
        · omega
        · rw [if_neg z] at h
          exact h
    · intro h
      have h1 := ih.mpr (fun w hw => h w (by omega))
      by_cases z : few a m st n ≤ (if hid a n = true then pop (nuM a m st (sh a m st n)) else 8)
      · rw [if_pos z]
        exact h1
      · rw [if_neg z]
        cases hh : hid a n with
        | true =>
          simp only [↓reduceIte]
          exact h n (Nat.lt_succ_self n) hh
        | false =>
          simp only [Bool.false_eq_true, ↓reduceIte]
          exact hk
theorem x_enough {k c : Nat} (hS : StC C 4 a) (hF : FmC C a) (hH : HdC C a) (hB : BrC C c a m st) (hc : c = 113 ∨ c = 116) (hw : WF a) (hst : 1 ≤ st ∧ st ≤ 50) (hk : k ≤ 8) (hN : 3000 ≤ N) : f_X4_hasEnoughNames N C c (nI k) = some (nI (if k ≤ few a m st (a 0) then 1 else 0)) := by
  have w0 := hw.1
  unfold f_X4_hasEnoughNames
  simp only [↓jn_eq]
  rw [i_0, i_1, q_and1]
  refine (lpX (fun n i => lp_X4_hasEnoughNames_2 N C c (nI k) (some (nI 1)) n (nI i)) (a 0) (fun w => hid a w && !decide (k ≤ pop (nuM a m st (sh a m st w)))) (fun _ => some (nI 0)) (some (nI 1)) (fun n w hwd hp => ?_) (fun n w hwd hp => ?_) (fun n => ?_) (N := N) (by omega)).trans ?_
  · show lp_X4_hasEnoughNames_2 N C c (nI k) (some (nI 1)) (n + 1) (nI w) = lp_X4_hasEnoughNames_2 N C c (nI k) (some (nI 1)) n (nI (w + 1))
    have hpl := pop_le (nuM a m st (sh a m st w))
    rw [lp_X4_hasEnoughNames_2, x_isHidden hH hw hwd]
    cases z : hid a w with
    | true =>
      have hp2 : k ≤ pop (nuM a m st (sh a m st w)) := by
        simp only [z, Bool.true_and] at hp
        simpa using hp
      simp (disch := omega) only [(x_size hS).1, ob, q_le, Nat.not_le.mpr hwd, ↓reduceIte, ↓jn_eq, i_0, q_nT, x_nuW hF hH hB hc hw hst hwd z hN, hp2, i_1, nI_add]
    | false => simp (disch := omega) only [(x_size hS).1, ob, q_le, Nat.not_le.mpr hwd, ↓reduceIte, ↓jn_eq, i_0, Bool.false_eq_true, i_1, nI_add]
  · show lp_X4_hasEnoughNames_2 N C c (nI k) (some (nI 1)) (n + 2) (nI w) = some (nI 0)
    have hpl := pop_le (nuM a m st (sh a m st w))
    have hp2 := Bool.and_eq_true_iff.mp hp
    have hp3 : ¬ k ≤ pop (nuM a m st (sh a m st w)) := by simpa using hp2.2
    rw [lp_X4_hasEnoughNames_2, x_isHidden hH hw hwd]
    simp (disch := omega) only [(x_size hS).1, ob, q_le, Nat.not_le.mpr hwd, ↓reduceIte, ↓jn_eq, i_0, q_nT, hp2.1, x_nuW hF hH hB hc hw hst hwd hp2.1 hN, hp3, i_1, q_and0]
  · show lp_X4_hasEnoughNames_2 N C c (nI k) (some (nI 1)) (n + 1) (nI (a 0)) = some (nI 1)
    rw [lp_X4_hasEnoughNames_2]
    simp (disch := omega) only [(x_size hS).1, ob, q_le, Nat.le_refl, ↓reduceIte]
  · by_cases y : fst (fun w => hid a w && !decide (k ≤ pop (nuM a m st (sh a m st w)))) (a 0) < a 0
    · have h1 := Bool.and_eq_true_iff.mp (fst_yes _ _ y)
      have h2 : ¬ k ≤ few a m st (a 0) := fun q => by
        have h3 := (few_ge a m st hk (a 0)).mp q _ y h1.1
        have h4 : ¬ k ≤ pop (nuM a m st (sh a m st (fst (fun w => hid a w && !decide (k ≤ pop (nuM a m st (sh a m st w)))) (a 0)))) := by simpa using h1.2
        exact h4 h3
      rw [if_pos y, if_neg h2]
    · have h2 : k ≤ few a m st (a 0) := (few_ge a m st hk (a 0)).mpr (fun w hwd hh => by
        have h3 := fst_no (fun w => hid a w && !decide (k ≤ pop (nuM a m st (sh a m st w)))) (a 0) w (by have := fst_le (fun w => hid a w && !decide (k ≤ pop (nuM a m st (sh a m st w)))) (a 0); omega)
        simp only [hh, Bool.true_and] at h3
        simpa using h3)
      rw [if_neg y, if_pos h2]
/-- the class's state but for the trial bars -/
def Ex118 (C C' : kS) : Prop := ∀ j, j ≠ 118 → C' j = C j
theorem HdC.cg2 {C' : kS} (h : HdC C a) (hx : Ex118 C C') : HdC C' a := h.cg (hx 121 (by decide)) (hx 123 (by decide))
theorem FmC.cg2 {C' : kS} (h : FmC C a) (hx : Ex118 C C') : FmC C' a := h.cg (hx 106 (by decide)) (hx 108 (by decide)) (hx 110 (by decide)) (hx 112 (by decide))
theorem StC.cg2 {C' : kS} (h : StC C 4 a) (hx : Ex118 C C') : StC C' 4 a := h.cg (fun j h1 h2 => hx j (by omega))
theorem J_steps {k : Nat} (hw : WF a) (hk : k ≤ 8) (hN : 3000 ≤ N) (kc : kS → Option (Int32 × kS)) (km : kS → Option (Int32 × kS)) (hkc : kc = fun C3 => some (-14, C3)) (hkm : km = fun C4 => some (-14, C4)) : ∀ (d s n n' : Nat) (C M : kS), s + d = 51 → 1 ≤ s → d < n → d < n' → SM M a → StC C 4 a → FmC C a → HdC C a → ∃ r C' M', lp_X8_stepFor_16 N (nI k) kc n (nI s) C = some (r, C') ∧ lp_X9_stepFor_15 N (nI k) km n' (nI s) M = some (r, M') ∧ AgM M M' ∧ Ex118 C C'
  | 0, s, n, n', C, M, hs, h1, hn, hn', hM, hS, hF, hH => by
    obtain ⟨n, rfl⟩ : ∃ m, n = m + 1 := ⟨n - 1, by omega⟩
    obtain ⟨n', rfl⟩ : ∃ m, n' = m + 1 := ⟨n' - 1, by omega⟩
    have e : s = 51 := by omega
    subst e
    refine ⟨-14, C, M, ?_, ?_, AgM.rf, fun _ _ => rfl⟩
    · rw [lp_X8_stepFor_16, if_pos (by decide), hkc]
    · rw [lp_X9_stepFor_15, if_pos (by decide), hkm]
  | d + 1, s, n, n', C, M, hs, h1, hn, hn', hM, hS, hF, hH => by
    obtain ⟨n, rfl⟩ : ∃ m, n = m + 1 := ⟨n - 1, by omega⟩
    obtain ⟨n', rfl⟩ : ∃ m, n' = m + 1 := ⟨n' - 1, by omega⟩
    have hst : 1 ≤ s ∧ s ≤ 50 := ⟨h1, by omega⟩
    obtain ⟨C1, e1, x1, hB⟩ := x_draw (N := N) hF hw (k := 116) (m := 1) (Or.inr rfl) (by decide) hst hN
    have hx1 : Ex118 C C1 := x1
    obtain ⟨M1, e2, hA, hL⟩ := m_lays (N := N) hM hw (m := 1) (by decide) hst hN
    have hM1 := hA.sm hM
    have e3 := x_enough (N := N) (hS.cg2 hx1) (hF.cg2 hx1) (hH.cg2 hx1) hB (Or.inr rfl) hw hst hk hN
    have e4 := m_few (N := N) hM1 hw hL hst hN
    have e5 : C 23 2 = nI (a 5) := hS.2.2.2.2 2 (by decide)
    have hf8 := few_le a 1 s (a 0)
    have hstep : ∀ T : Option (Int32 × kS), lp_X8_stepFor_16 N (nI k) kc (n + 1) (nI s) C = (if nI (if k ≤ few a 1 s (a 0) then 1 else 0) = nI 0 then lp_X8_stepFor_16 N (nI k) kc n (nI (s + 1)) C1 else some (nI s, C1)) := fun _ => by
      rw [lp_X8_stepFor_16, i_2, x_at (k := 22) (n := 5) rfl (by decide) (by decide), e5]
      simp (disch := omega) only [i_50, q_lt, if_neg, ob, i_1, e1, e3, i_0, nI_add]
    have hstepM : lp_X9_stepFor_15 N (nI k) km (n' + 1) (nI s) M = (if nI (few a 1 s (a 0)) < nI k then lp_X9_stepFor_15 N (nI k) km n' (nI (s + 1)) M1 else some (nI s, M1)) := by
      rw [lp_X9_stepFor_15]
      simp (disch := omega) only [i_50, q_lt, if_neg, i_1, e2, ob, e4, nI_add]
    rw [hstep none, hstepM]
    by_cases y : k ≤ few a 1 s (a 0)
    · refine ⟨nI s, C1, M1, ?_, ?_, hA, hx1⟩
      · rw [if_pos y, if_neg (by rw [q_nT]; exact not_false)]
      · rw [if_neg (fun q => by have := (nI_ltI (by omega) (by omega)).mp q; omega)]
    · obtain ⟨r, C', M', g1, g2, g3, g4⟩ := J_steps hw hk hN kc km hkc hkm d (s + 1) n n' C1 M1 (by omega) (by omega) (by omega) (by omega) hM1 (hS.cg2 hx1) (hF.cg2 hx1) (hH.cg2 hx1)
      refine ⟨r, C', M', ?_, ?_, hA.tr g3, fun j hj => by rw [g4 j hj, hx1 j hj]⟩
      · rw [if_neg y, if_pos rfl]
        exact g1
      · rw [if_pos ((nI_ltI (by omega) (by omega)).mpr (by omega))]
        exact g2
theorem J_stepFor (h : RD C M a) (v : Int32) (hN : 3000 ≤ N) : ∃ r C' M', f_X8_stepFor N C v = some (r, C') ∧ f_X9_stepFor N M v = some (r, M') ∧ AgM M M' ∧ Ex118 C C' := by
  obtain ⟨hw, hM, hS, hF, hB, hH, hD⟩ := h
  unfold f_X8_stepFor f_X9_stepFor
  rcases sg v with hv | ⟨k, hk, rfl⟩
  · refine ⟨-11, C, M, ?_, ?_, AgM.rf, fun _ _ => rfl⟩
    · rw [i_1, if_pos (by rw [ngLt hv (by decide)]; trivial)]
    · rw [i_1, i_8, m_inG hv (by decide), ob, i_0, if_pos rfl]
  · rw [i_1, i_8, m_inN hk (by decide) (by decide), ob]
    by_cases y : 1 ≤ k ∧ k ≤ 8
    · obtain ⟨r, C', M', g1, g2, g3, g4⟩ := J_steps (N := N) (k := k) hw y.2 hN (fun C3 => some (-14, C3)) (fun C4 => some (-14, C4)) rfl rfl 50 1 N N C M rfl (by decide) (by omega) (by omega) hM hS hF hH
      refine ⟨r, C', M', ?_, ?_, g3, g4⟩
      · simp only [↓jn_eq]
        rw [if_neg (fun q => by have := (nI_ltI hk (by decide)).mp q; omega), if_pos ((nI_leI hk (by decide)).mpr y.2)]
        exact g1
      · simp only [↓jn_eq]
        rw [if_pos y, if_neg (by rw [i_0, q_nT]; exact not_false)]
        exact g2
    · refine ⟨-11, C, M, ?_, ?_, AgM.rf, fun _ _ => rfl⟩
      · by_cases z : k < 1
        · rw [if_pos ((nI_ltI hk (by decide)).mpr z)]
        · rw [if_neg (fun q => z ((nI_ltI hk (by decide)).mp q)), if_neg (fun q => by have := (nI_leI hk (by decide)).mp q; omega)]
      · rw [if_neg y, i_0, if_pos rfl]
theorem J_modes (hw : WF a) (hN : 3000 ≤ N) (kc : Int32 → kS → Option (Int32 × kS)) (km : Int32 → kS → Option (Int32 × kS)) (hkc : kc = fun x1 C2 => some (x1, C2)) (hkm : km = fun x1 C2 => some (x1, C2)) : ∀ (d s n n' : Nat) (x4 x5 : Int32) (C M : kS), s + d = 4 → d < n → d < n' → SM M a → StC C 4 a → FmC C a → HdC C a → ∃ r C' M', lp_X8_modeFor_7 N kc n x4 x5 (nI s) C = some (r, C') ∧ lp_X9_modeFor_7 N km n' x4 x5 (nI s) M = some (r, M') ∧ AgM M M' ∧ Ex118 C C'
  | 0, s, n, n', x4, x5, C, M, hs, hn, hn', hM, hS, hF, hH => by
    obtain ⟨n, rfl⟩ : ∃ m, n = m + 1 := ⟨n - 1, by omega⟩
    obtain ⟨n', rfl⟩ : ∃ m, n' = m + 1 := ⟨n' - 1, by omega⟩
    have e : s = 4 := by omega
    subst e
    refine ⟨x4, C, M, ?_, ?_, AgM.rf, fun _ _ => rfl⟩
    · rw [lp_X8_modeFor_7, if_pos (by decide), hkc]
    · rw [lp_X9_modeFor_7, if_pos (by decide), hkm]
  | d + 1, s, n, n', x4, x5, C, M, hs, hn, hn', hM, hS, hF, hH => by
    obtain ⟨n, rfl⟩ : ∃ m, n = m + 1 := ⟨n - 1, by omega⟩
    obtain ⟨n', rfl⟩ : ∃ m, n' = m + 1 := ⟨n' - 1, by omega⟩
    have hst := hw.2.2.2.2.1
    obtain ⟨C1, e1, x1, hB⟩ := x_draw (N := N) hF hw (k := 116) (m := s) (Or.inr rfl) (by omega) hst hN
    have hx1 : Ex118 C C1 := x1
    obtain ⟨M1, e2, hA, hL⟩ := m_lays (N := N) hM hw (m := s) (by omega) hst hN
    have hM1 := hA.sm hM
    have e3 := x_sumW (N := N) (hS.cg2 hx1) (hH.cg2 hx1) hB (Or.inr rfl) hw hN
    have e4 := x_betrayed (N := N) (hS.cg2 hx1) (hF.cg2 hx1) (hH.cg2 hx1) hB (Or.inr rfl) hw hst hN
    have e5 := m_sumOf (N := N) hM1 hw hL hst (what := 12) (by decide) hN
    have e6 := m_sumOf (N := N) hM1 hw hL hst (what := 11) (by decide) hN
    have e7 : C 23 2 = nI (a 5) := hS.2.2.2.2 2 (by decide)
    have e8 : C 23 1 = nI (a 4) := hS.2.2.2.2 1 (by decide)
    generalize nI (sumN (tm a s (a 4) 12) (a 0)) = S at e3 e5
    generalize nI (sumN (tm a s (a 4) 11) (a 0)) = B at e4 e6
    have ih := fun x4 x5 => J_modes hw hN kc km hkc hkm d (s + 1) n n' x4 x5 C1 M1 (by omega) (by omega) (by omega) hM1 (hS.cg2 hx1) (hF.cg2 hx1) (hH.cg2 hx1)
    have hstep : lp_X8_modeFor_7 N kc (n + 1) x4 x5 (nI s) C = (if (x4 = -14 ∨ ¬ x5 ≤ S) ∧ B = 0 then lp_X8_modeFor_7 N kc n (nI s) S (nI (s + 1)) C1 else lp_X8_modeFor_7 N kc n x4 x5 (nI (s + 1)) C1) := by
      rw [lp_X8_modeFor_7, i_1, i_2, x_at (k := 22) (n := 5) rfl (by decide) (by decide), x_at (k := 22) (n := 5) rfl (by decide) (by decide), e7, e8]
      simp (disch := omega) only [i_3, q_lt, if_neg, ob, e1, e3, e4, nI_add, ↓jn_eq, i_0]
      by_cases y1 : x4 = -14
      · by_cases y2 : B = nI 0
        · simp only [y1, y2, ↓reduceIte, true_or, true_and, q_nT]
        · simp only [y1, y2, ↓reduceIte, and_false, q_nT]
      · by_cases y3 : x5 ≤ S
        · simp only [y1, y3, ↓reduceIte, not_true, or_self, false_and]
        · by_cases y2 : B = nI 0
          · simp only [y1, y2, y3, ↓reduceIte, not_false_iff, or_true, true_and, q_nT]
          · simp only [y1, y2, y3, ↓reduceIte, and_false, q_nT]
    have hstepM : lp_X9_modeFor_7 N km (n' + 1) x4 x5 (nI s) M = (if (x4 = -14 ∨ ¬ x5 ≤ S) ∧ B = 0 then lp_X9_modeFor_7 N km n' (nI s) S (nI (s + 1)) M1 else lp_X9_modeFor_7 N km n' x4 x5 (nI (s + 1)) M1) := by
      rw [lp_X9_modeFor_7]
      simp (disch := omega) only [i_4, q_le, if_neg, q_gIn, q_cl, hM _, e2, ob, i_12, i_11, e5, e6, i_1, nI_add, ↓jn_eq, i_0]
      by_cases y2 : B = nI 0
      · by_cases y1 : x4 = -14
        · simp only [y1, y2, ↓reduceIte, true_or, true_and]
        · by_cases y3 : x5 ≤ S
          · simp only [y1, y2, y3, ↓reduceIte, not_true, or_self, false_and]
          · simp only [y1, y2, y3, ↓reduceIte, not_false_iff, or_true, true_and]
      · simp only [y2, ↓reduceIte, and_false]
    rw [hstep, hstepM]
    by_cases y : (x4 = -14 ∨ ¬ x5 ≤ S) ∧ B = 0
    · rw [if_pos y, if_pos y]
      obtain ⟨r, C', M', g1, g2, g3, g4⟩ := ih (nI s) S
      exact ⟨r, C', M', g1, g2, hA.tr g3, fun j hj => by rw [g4 j hj, hx1 j hj]⟩
    · rw [if_neg y, if_neg y]
      obtain ⟨r, C', M', g1, g2, g3, g4⟩ := ih x4 x5
      exact ⟨r, C', M', g1, g2, hA.tr g3, fun j hj => by rw [g4 j hj, hx1 j hj]⟩
theorem J_modeFor (h : RD C M a) (hN : 3000 ≤ N) : ∃ r C' M', f_X8_modeFor N C = some (r, C') ∧ f_X9_modeFor N M = some (r, M') ∧ AgM M M' ∧ Ex118 C C' := by
  obtain ⟨hw, hM, hS, hF, hB, hH, hD⟩ := h
  unfold f_X8_modeFor f_X9_modeFor
  simp only [↓jn_eq, i_0]
  exact J_modes (N := N) hw hN (fun x1 C2 => some (x1, C2)) (fun x1 C2 => some (x1, C2)) rfl rfl 4 0 N N (-14) (nI 0) C M rfl (by omega) (by omega) hM hS hF hH
end JJ5
