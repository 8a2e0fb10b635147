/-! ===== a loop that may end early ===== -/
theorem lpX {β : Type} (L : Nat → Nat → β) (m : Nat) (p : Nat → Bool) (kF : Nat → β) (kT : β) (hs : ∀ n i, i < m → p i = false → L (n + 1) i = L n (i + 1)) (hf : ∀ n i, i < m → p i = true → L (n + 2) i = kF i) (he : ∀ n, L (n + 1) m = kT) {N : Nat} (hN : m + 1 < N) : L N 0 = if fst p m < m then kF (fst p m) else kT := by
  have hle := fst_le p m
  have run : ∀ j, j ≤ fst p m → L N 0 = L (N - j) j := by
    intro j
    induction j with
    | zero => intro _; rfl
    | succ j ih =>
      intro hj
      rw [ih (by omega)]
      have h1 := hs (N - (j + 1)) j (by omega) (fst_no p m j (by omega))
      have e : N - (j + 1) + 1 = N - j := by omega
      rw [e] at h1
      exact h1
  rw [run _ (Nat.le_refl _)]
  split
  · rename_i h
    have h1 := hf (N - fst p m - 2) (fst p m) h (fst_yes p m h)
    have e : N - fst p m - 2 + 2 = N - fst p m := by omega
    rw [e] at h1
    exact h1
  · rename_i h
    have e : fst p m = m := by omega
    rw [e]
    have h1 := he (N - m - 1)
    have e2 : N - m - 1 + 1 = N - m := by omega
    rw [e2] at h1
    exact h1
theorem allB_fst (p : Nat → Bool) (n : Nat) : allB p n = decide (¬ fst (fun k => !p k) n < n) := by
  rw [Bool.eq_iff_iff, allB_iff, decide_eq_true_iff]
  refine ⟨fun h hl => ?_, fun h k hk => ?_⟩
  · have h1 := fst_yes _ _ hl
    rw [h _ hl] at h1
    cases h1
  · have h1 := fst_no (fun k => !p k) n k (by omega)
    simpa using h1
theorem q_nT : (nI 1 = nI 0) = False := by simp; decide
section MM2
variable {M : kS} {a : kA} {N : Nat}
theorem fq {f : Nat} (hf : f < sF a) : f / (a 2 + 1) < a 1 := Nat.div_lt_of_lt_mul (by unfold sF at hf; rw [Nat.mul_comm]; exact hf)
theorem fr (f : Nat) : f % (a 2 + 1) < a 2 + 1 := Nat.mod_lt _ (Nat.succ_pos _)
theorem sF_le (hw : WF a) : sF a ≤ 40 := by
  have h1 := Nat.mul_le_mul hw.2.1 (Nat.succ_le_succ hw.2.2.1)
  exact h1
theorem m_endingAt (h : SM M a) (h2 : a 2 ≤ 4) {f : Nat} (hf : f ≤ 1000) (hr : ¬ f % (a 2 + 1) = 0) : f_X9_endingAt N M (nI f) = some (nI (feA a f)) := by
  unfold f_X9_endingAt
  simp (disch := omega) only [m_each h, ob, q_nz, q_rem]
  simp (disch := omega) only [i_626, i_4, i_1, q_sub, pk_mul, nI_add]
  rfl
theorem m_lettersOf (h : SM M a) (hw : WF a) {f : Nat} (hf : f < sF a) : f_X9_lettersOf N M (nI f) = some (nI (fl a f)) := by
  obtain ⟨w0, w1, w2, w3, w4, w5, w6, w7, wl, wp, wn, we⟩ := id hw
  have hF := sF_le hw
  have hq := fq hf
  have hr := fr (a := a) f
  have hfe : ∀ r, ¬ f % (a 2 + 1) = 0 → r = feA a f → r < 642 := fun r z e => by rw [e]; unfold feA; omega
  unfold f_X9_lettersOf
  simp (disch := omega) only [m_each h, ob, q_nz, q_rem, jn]
  by_cases z : f % (a 2 + 1) = 0
  · simp (disch := omega) only [z, i_0, if_true, q_div, i_554, i_9, pk_mul, nI_add, q_gIn, q_cl, h _]
    unfold fl
    rw [if_pos z]
    rfl
  · have hx := hfe _ z rfl
    simp (disch := omega) only [z, i_0, q_eq, if_false, m_endingAt h w2 (f := f) (by omega) z, ob, q_div, i_554, i_9, pk_mul, nI_add, q_gIn, q_cl, h _]
    unfold fl
    rw [if_neg z]
    rfl
theorem m_letterOf (h : SM M a) (hw : WF a) {f k : Nat} (hf : f < sF a) (hk : k < fl a f) : f_X9_letterOf N M (nI f) (nI k) = some (nI (fc a f k)) := by
  obtain ⟨w0, w1, w2, w3, w4, w5, w6, w7, wl, wp, wn, we⟩ := id hw
  have hF := sF_le hw
  have hq := fq hf
  have hr := fr (a := a) f
  have hn := (wn _ hq).1
  unfold f_X9_letterOf
  simp (disch := omega) only [m_each h, ob, q_nz, jn, q_div, i_554, i_9, pk_mul, nI_add, q_gIn, q_cl, h _]
  have hn8 : a (fnA a f) ≤ 8 := hn.2
  unfold fl at hk
  by_cases z : k < a (fnA a f)
  · have z2 : ¬ a (554 + 9 * (f / (a 2 + 1))) ≤ k := by unfold fnA at z; omega
    unfold fnA at z
    simp (disch := omega) only [q_le, z2, if_false, i_1, nI_add, q_gIn, q_cl, h _]
    unfold fc fnA
    rw [if_pos z]
  · have hz : ¬ f % (a 2 + 1) = 0 := fun e => by rw [if_pos e] at hk; omega
    rw [if_neg hz] at hk
    have h3 := (we (f % (a 2 + 1) - 1) (by omega)).1.2
    have h3' : a (feA a f) ≤ 3 := h3
    have hb : feA a f + 4 ≤ 642 := by unfold feA; omega
    have z2 : a (554 + 9 * (f / (a 2 + 1))) ≤ k := by unfold fnA at z; omega
    have e1 : feA a f + 1 + k - a (554 + 9 * (f / (a 2 + 1))) = feA a f + 1 + (k - a (fnA a f)) := by unfold fnA at *; omega
    have e2 : feA a f + 1 + (k - a (fnA a f)) < 642 := by omega
    simp (disch := omega) only [q_le, z2, if_true, m_endingAt h w2 (f := f) (by omega) hz, ob, i_1, nI_add, q_sub, q_gIn, q_cl, e1, h _]
    unfold fc
    rw [if_neg z]
theorem m_isForm (h : SM M a) (hw : WF a) {w f : Nat} (hwd : w < a 0) (hf : f < sF a) (hN : 3000 ≤ N) : f_X9_isForm N M (nI w) (nI f) = some (nI (if isF a w f then 1 else 0)) := by
  obtain ⟨w0, w1, w2, w3, w4, w5, w6, w7, wl, wp, wn, we⟩ := id hw
  have hF := sF_le hw
  have hp := (wp w hwd).1
  unfold f_X9_isForm
  simp (disch := omega) only [m_lettersOf h hw hf, ob, jn, i_34, i_13, i_1, i_0, pk_mul, nI_add, q_gIn, q_cl, h _]
  have hfl : fl a f ≤ 20 := by
    have hq := fq hf
    have hr := fr (a := a) f
    have b1 : a (fnA a f) ≤ 8 := (wn _ hq).1.2
    unfold fl
    by_cases z : f % (a 2 + 1) = 0
    · rw [if_pos z]; omega
    · rw [if_neg z]
      have b2 : a (feA a f) ≤ 3 := (we _ (by omega)).1.2
      omega
  by_cases hlen : a (34 + 13 * w) = fl a f
  · have hq : (nI (a (34 + 13 * w)) = nI (fl a f)) = True := by rw [q_eq (by omega) (by omega)]; simpa using hlen
    simp only [hq, if_true]
    refine (lpX (fun n i => lp_X9_isForm_32 N M (nI w) (nI f) (fun x6 => some (x6 &&& nI 1)) n (nI 1) (nI i)) (a (34 + 13 * w)) (fun k => !(decide (a (34 + 13 * w + 1 + k) = fc a f k))) (fun _ => some (nI 0)) (some (nI 1)) (fun n i hi hpi => ?_) (fun n i hi hpi => ?_) (fun n => ?_) (by omega)).trans ?_
    · have hpe : a (34 + 13 * w + 1 + i) = fc a f i := by simpa using hpi
      show lp_X9_isForm_32 N M (nI w) (nI f) (fun x6 => some (x6 &&& nI 1)) (n + 1) (nI 1) (nI i) = lp_X9_isForm_32 N M (nI w) (nI f) (fun x6 => some (x6 &&& nI 1)) n (nI 1) (nI (i + 1))
      rw [lp_X9_isForm_32]
      simp (disch := omega) only [i_34, i_13, i_1, i_0, pk_mul, nI_add, q_gIn, q_cl, h _, q_le, q_nT, m_letterOf h hw hf (k := i) (by omega), ob, jn, hpe, if_neg, if_false, if_true]
    · have hpe : ¬ a (34 + 13 * w + 1 + i) = fc a f i := by simpa using hpi
      show lp_X9_isForm_32 N M (nI w) (nI f) (fun x6 => some (x6 &&& nI 1)) (n + 1 + 1) (nI 1) (nI i) = some (nI 0)
      rw [lp_X9_isForm_32]
      have hb1 : a (34 + 13 * w + 1 + i) < 26 := (wp w hwd).2 i hi
      have hb2 : fc a f i < 2147483648 := by
        have hq := fq hf
        have hr := fr (a := a) f
        unfold fc
        unfold fl at hlen
        by_cases z : i < a (fnA a f)
        · rw [if_pos z]
          have := (wn _ hq).2 i z
          unfold fnA
          omega
        · rw [if_neg z]
          have hz : ¬ f % (a 2 + 1) = 0 := fun e => by rw [if_pos e] at hlen; omega
          rw [if_neg hz] at hlen
          have := (we _ (show f % (a 2 + 1) - 1 < a 2 by omega)).2 (i - a (fnA a f)) (by unfold feA at hlen; omega)
          unfold feA
          omega
      simp (disch := omega) only [i_34, i_13, i_1, i_0, pk_mul, nI_add, q_gIn, q_cl, h _, q_le, q_nT, m_letterOf h hw hf (k := i) (by omega), ob, jn, q_eq, hpe, if_neg, if_false]
      rw [lp_X9_isForm_32]
      simp (disch := omega) only [i_34, i_13, i_1, i_0, pk_mul, nI_add, q_gIn, q_cl, h _, if_true, ite_self, q_and0]
    · show lp_X9_isForm_32 N M (nI w) (nI f) (fun x6 => some (x6 &&& nI 1)) (n + 1) (nI 1) (nI (a (34 + 13 * w))) = some (nI 1)
      rw [lp_X9_isForm_32]
      simp (disch := omega) only [i_34, i_13, pk_mul, nI_add, q_gIn, q_cl, h _, q_le, Nat.le_refl, if_true, q_and1]
    · unfold isF
      rw [allB_fst]
      simp only [hlen, decide_true, Bool.true_and]
      split
      · rename_i z
        simp [z]
      · rename_i z
        simp [z]
  · have hq : (nI (a (34 + 13 * w)) = nI (fl a f)) = False := by rw [q_eq (by omega) (by omega)]; simpa using hlen
    obtain ⟨N', rfl⟩ : ∃ N', N = N' + 1 := ⟨N - 1, by omega⟩
    simp only [hq, if_false]
    rw [lp_X9_isForm_32]
    simp (disch := omega) only [i_34, i_13, i_1, i_0, pk_mul, nI_add, q_gIn, q_cl, h _, if_true, ite_self, q_and0]
    unfold isF
    simp [hlen]
end MM2
