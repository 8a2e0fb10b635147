section MM8
variable {M : kS} {a : kA} {N m st : Nat}
theorem lg_b (a : kA) (m st nm : Nat) {v : Nat} (hv : v ≤ 500) : ∀ f, lg a m st nm v f ≤ 1000 ∧ (lg a m st nm v f ≠ 1000 → lg a m st nm v f ≤ 500)
  | 0 => ⟨Nat.le_refl _, fun h => absurd rfl h⟩
  | f + 1 => by
    have ih := lg_b a m st nm hv f
    rw [lg]
    split
    · split
      · exact ih
      · omega
    · exact ih
theorem lg_lo (a : kA) (m st nm v : Nat) : ∀ f, f ≤ nm * (a 2 + 1) → lg a m st nm v f = 1000
  | 0, _ => rfl
  | f + 1, h => by
    have ih := lg_lo a m st nm v f (by omega)
    have h1 : f / (a 2 + 1) < nm := Nat.div_lt_of_lt_mul (by rw [Nat.mul_comm]; omega)
    rw [lg, if_neg (by omega), ih]
theorem lg_hi (a : kA) (m st nm v : Nat) : ∀ d, lg a m st nm v ((nm + 1) * (a 2 + 1) + d) = lg a m st nm v ((nm + 1) * (a 2 + 1))
  | 0 => rfl
  | d + 1 => by
    have ih := lg_hi a m st nm v d
    have h1 : nm + 1 ≤ ((nm + 1) * (a 2 + 1) + d) / (a 2 + 1) := (Nat.le_div_iff_mul_le (show 0 < a 2 + 1 from Nat.succ_pos _)).mpr (by omega)
    rw [← Nat.add_assoc, lg, if_neg (by omega), ih]
theorem m_gapOf (h : SM M a) (hw : WF a) (hD : LD M a m st) (hst : 1 ≤ st ∧ st ≤ 50) {nm v : Nat} (hn : nm < a 1) (hv : v ≤ 500) (hN : 3000 ≤ N) : f_X9_gapOf N M (nI nm) (nI v) = some (lgE (-14) (lgA a m st nm v)) := by
  obtain ⟨w0, w1, w2, w3, w4, w5, w6, w7, wl, wp, wn, we⟩ := id hw
  have hle := sF_le hw
  have hE : (nm + 1) * (a 2 + 1) ≤ sF a := by unfold sF; exact Nat.mul_le_mul_right _ hn
  have hE2 : nm * (a 2 + 1) + (a 2 + 1) = (nm + 1) * (a 2 + 1) := (Nat.succ_mul _ _).symm
  have hA : lgA a m st nm v = lg a m st nm v ((nm + 1) * (a 2 + 1)) := by
    have e : sF a = (nm + 1) * (a 2 + 1) + (sF a - (nm + 1) * (a 2 + 1)) := by omega
    unfold lgA
    rw [e, lg_hi]
  unfold f_X9_gapOf
  obtain ⟨n, e⟩ := lpF (fun n i (x : Int32) => lp_X9_gapOf_11 N M (nI nm) (nI v) (fun x3 => some x3) n x (nI (nm * (a 2 + 1) + i))) (fun i => lgE (-14) (lg a m st nm v (nm * (a 2 + 1) + i))) (a 2 + 1) (fun n j hj => by
    have hjj : nm * (a 2 + 1) + (j + 1) = nm * (a 2 + 1) + j + 1 := rfl
    have hlo : ¬ nm * (a 2 + 1) + j < nm * (a 2 + 1) := by omega
    have hf : nm * (a 2 + 1) + j < (nm + 1) * (a 2 + 1) := by omega
    rw [hjj]
    generalize nm * (a 2 + 1) + j = f at *
    show lp_X9_gapOf_11 N M (nI nm) (nI v) _ (n + 1) (lgE (-14) (lg a m st nm v f)) (nI f) = lp_X9_gapOf_11 N M (nI nm) (nI v) _ n (lgE (-14) (lg a m st nm v (f + 1))) (nI (f + 1))
    have hb := bw_le hw (m := m) hst (show f < sF a by omega)
    have hb2 := bw_ge hw (m := m) (f := f) hst.1 (by omega)
    have hlb := lg_b a m st nm hv f
    have hq : f / (a 2 + 1) = nm := by
      have h1 : f / (a 2 + 1) < nm + 1 := Nat.div_lt_of_lt_mul (by rw [Nat.mul_comm]; exact hf)
      have h2 : nm ≤ f / (a 2 + 1) := (Nat.le_div_iff_mul_le (show 0 < a 2 + 1 from Nat.succ_pos _)).mpr (by omega)
      omega
    rw [lp_X9_gapOf_11, lg]
    simp (disch := omega) only [m_each h, ob, i_1, nI_add, pk_mul, q_le, Nat.not_le.mpr hf, ↓reduceIte, ↓jn_eq, q_gIn, q_cl, hD.2.2.1 f, hD.2.1 f, q_eq, hq, true_and]
    by_cases z : bw a m st f = v
    · have z3 : fw a f ≤ v := by omega
      simp (disch := omega) only [z, ↓reduceIte, q_sub]
      by_cases y : lg a m st nm v f = 1000
      · have y2 : ¬ v - fw a f = 1000 := by omega
        have y3 : ¬ 1000 ≤ v - fw a f := by omega
        simp only [lgE, y, ↓reduceIte, y2, y3]
      · have y2 : ¬ v - fw a f = 1000 := by omega
        simp (disch := omega) only [lgE, y, ↓reduceIte, y2, q_m14, q_le]
        by_cases y3 : lg a m st nm v f ≤ v - fw a f
        · simp only [y3, ↓reduceIte, y]
        · simp only [y3, ↓reduceIte, y2]
    · simp only [z, ↓reduceIte]) (N := N) 0 (Nat.zero_le _) (by omega)
  simp (disch := omega) only [m_each h, ob, ↓jn_eq, pk_mul]
  simp only [Nat.add_zero] at e
  rw [lg_lo a m st nm v _ (Nat.le_refl _), hE2] at e
  refine Eq.trans ?_ (e.trans ?_)
  · rfl
  · show lp_X9_gapOf_11 N M (nI nm) (nI v) _ (n + 1) (lgE (-14) (lg a m st nm v ((nm + 1) * (a 2 + 1)))) (nI ((nm + 1) * (a 2 + 1))) = _
    rw [lp_X9_gapOf_11]
    simp (disch := omega) only [m_each h, ob, i_1, nI_add, pk_mul, q_le, Nat.le_refl, ↓reduceIte, hA]
theorem m_soon (h : SM M a) (hw : WF a) (hD : LD M a m st) (hst : 1 ≤ st ∧ st ≤ 50) {n v : Nat} (hn : n < a 1) (hv : v ≤ 500) (hg : lgA a m st n v ≠ 1000) (kont : Int32 → Option Int32) (hN : 3000 ≤ N) : lp_X9_guessOf_29 N M (nI v) (nI n) (nI (lgA a m st n v)) kont N (nI 0) (nI 0) = kont (nI (ct (soon a m st n v) (a 1))) := by
  obtain ⟨w0, w1, w2, w3, w4, w5, w6, w7, wl, wp, wn, we⟩ := id hw
  obtain ⟨k, e⟩ := lpF (fun k i (x : Int32) => lp_X9_guessOf_29 N M (nI v) (nI n) (nI (lgA a m st n v)) kont k x (nI i)) (fun i => nI (ct (soon a m st n v) i)) (a 1) (fun k o ho => by
    have hb := lg_b a m st o hv (sF a)
    have hb2 := lg_b a m st n hv (sF a)
    have hc := ct_le (soon a m st n v) o
    show lp_X9_guessOf_29 N M (nI v) (nI n) (nI (lgA a m st n v)) kont (k + 1) (nI (ct (soon a m st n v) o)) (nI o) = lp_X9_guessOf_29 N M (nI v) (nI n) (nI (lgA a m st n v)) kont k (nI (ct (soon a m st n v) (o + 1))) (nI (o + 1))
    rw [lp_X9_guessOf_29, ct]
    simp (disch := omega) only [i_1, q_gIn, q_cl, h _, q_le, Nat.not_le.mpr ho, ↓reduceIte, m_gapOf h hw hD hst ho hv hN, ob, ↓jn_eq]
    by_cases y : lgA a m st o v = 1000
    · have ys : soon a m st n v o = false := decide_eq_false (fun q => q.1 y)
      simp only [lgE, y, ys, ↓reduceIte, i_0, nI_add, Bool.false_eq_true]
    · unfold lgA at y hg
      unfold lgA
      by_cases y1 : lg a m st o v (sF a) < lg a m st n v (sF a)
      · have ys : soon a m st n v o = true := decide_eq_true ⟨y, Or.inl y1⟩
        simp (disch := omega) only [lgE, y, ↓reduceIte, q_m14, q_lt, y1, nI_add, ys]
      · by_cases y2 : lg a m st o v (sF a) = lg a m st n v (sF a)
        · by_cases y3 : n ≤ o
          · have ys : soon a m st n v o = false := decide_eq_false (fun q => by unfold lgA at q; omega)
            simp (disch := omega) only [lgE, hg, y2, ↓reduceIte, q_m14, q_lt, Nat.lt_irrefl, q_le, y3, nI_add, ys, i_0, Bool.false_eq_true]
          · have ys : soon a m st n v o = true := decide_eq_true (by unfold lgA; exact ⟨y, Or.inr ⟨y2, by omega⟩⟩)
            simp (disch := omega) only [lgE, hg, y2, ↓reduceIte, q_m14, q_lt, Nat.lt_irrefl, q_le, y3, nI_add, ys]
        · have ys : soon a m st n v o = false := decide_eq_false (fun q => by unfold lgA at q; omega)
          simp (disch := omega) only [lgE, y, ↓reduceIte, q_m14, q_lt, y1, q_eq, y2, nI_add, ys, i_0, Bool.false_eq_true]) (N := N) 0 (Nat.zero_le _) (by omega)
  refine e.trans ?_
  show lp_X9_guessOf_29 N M (nI v) (nI n) (nI (lgA a m st n v)) kont (k + 1) (nI (ct (soon a m st n v) (a 1))) (nI (a 1)) = _
  rw [lp_X9_guessOf_29]
  simp (disch := omega) only [i_1, q_gIn, q_cl, h _, q_le, Nat.le_refl, ↓reduceIte]
theorem m_soon0 (h : SM M a) (hw : WF a) (hD : LD M a m st) (hst : 1 ≤ st ∧ st ≤ 50) {n v : Nat} {r : Int32} (hv : v ≤ 500) (kont : Int32 → Option Int32) (hN : 3000 ≤ N) : ∃ x, lp_X9_guessOf_29 N M (nI v) (nI n) r kont N (nI 0) (nI 0) = kont x := by
  obtain ⟨w0, w1, w2, w3, w4, w5, w6, w7, wl, wp, wn, we⟩ := id hw
  obtain ⟨x, k, _, e⟩ := lpN (fun k i (x : Int32) => lp_X9_guessOf_29 N M (nI v) (nI n) r kont k x (nI i)) (fun _ _ => True) (a 1) (fun k o x ho _ => by
    show ∃ x', True ∧ lp_X9_guessOf_29 N M (nI v) (nI n) r kont (k + 1) x (nI o) = lp_X9_guessOf_29 N M (nI v) (nI n) r kont k x' (nI (o + 1))
    rw [lp_X9_guessOf_29]
    simp (disch := omega) only [i_1, q_gIn, q_cl, h _, q_le, Nat.not_le.mpr ho, ↓reduceIte, m_gapOf h hw hD hst ho hv hN, ob, ↓jn_eq, nI_add, true_and]
    repeat' split
    all_goals exact ⟨_, rfl⟩) (N := N) 0 (nI 0) (Nat.zero_le _) (by omega) trivial
  refine ⟨x, e.trans ?_⟩
  show lp_X9_guessOf_29 N M (nI v) (nI n) r kont (k + 1) x (nI (a 1)) = _
  rw [lp_X9_guessOf_29]
  simp (disch := omega) only [i_1, q_gIn, q_cl, h _, q_le, Nat.le_refl, ↓reduceIte]
theorem m_guessOf (h : SM M a) (hw : WF a) (hD : LD M a m st) (hst : 1 ≤ st ∧ st ≤ 50) {v wt : Nat} {pl : Int32} (hv : v ≤ 500) (hwt : wt ≤ 1) (hN : 3000 ≤ N) : f_X9_guessOf N M (nI v) pl (nI wt) = some (if fst (gss a m st v pl) (a 1) < a 1 then (if wt = 0 then nI (fst (gss a m st v pl) (a 1)) else nI (lgA a m st (fst (gss a m st v pl) (a 1)) v)) else -14) := by
  obtain ⟨w0, w1, w2, w3, w4, w5, w6, w7, wl, wp, wn, we⟩ := id hw
  unfold f_X9_guessOf
  simp only [jn_eq]
  refine (lpX (fun n i => lp_X9_guessOf_3 N M (nI v) pl (nI wt) (some (-14)) n (nI i)) (a 1) (gss a m st v pl) (fun k => some (if wt = 0 then nI k else nI (lgA a m st k v))) (some (-14)) (fun n i hi hp => ?_) (fun n i hi hp => ?_) (fun n => ?_) (N := N) (by omega)).trans ?_
  · show lp_X9_guessOf_3 N M (nI v) pl (nI wt) (some (-14)) (n + 1) (nI i) = lp_X9_guessOf_3 N M (nI v) pl (nI wt) (some (-14)) n (nI (i + 1))
    rw [lp_X9_guessOf_3]
    simp (disch := omega) only [i_1, q_gIn, q_cl, h _, q_le, Nat.not_le.mpr hi, ↓reduceIte, m_gapOf h hw hD hst hi hv hN, ob, ↓jn_eq, i_0, nI_add]
    by_cases y : lgA a m st i v = 1000
    · rw [(m_soon0 h hw hD hst hv _ hN).choose_spec]
      simp only [lgE, y, ↓reduceIte]
    · have hb := lg_b a m st i hv (sF a)
      simp only [lgE, y, ↓reduceIte]
      rw [m_soon h hw hD hst hi hv y _ hN]
      unfold lgA at y
      have hp2 := of_decide_eq_false hp
      unfold lgA at *
      simp (disch := omega) only [q_m14, ↓reduceIte]
      rw [if_neg (fun q => hp2 ⟨y, q⟩)]
  · show lp_X9_guessOf_3 N M (nI v) pl (nI wt) (some (-14)) (n + 2) (nI i) = _
    rw [lp_X9_guessOf_3]
    simp (disch := omega) only [i_1, q_gIn, q_cl, h _, q_le, Nat.not_le.mpr hi, ↓reduceIte, m_gapOf h hw hD hst hi hv hN, ob, ↓jn_eq, i_0, nI_add]
    have hp2 := of_decide_eq_true hp
    have hb := lg_b a m st i hv (sF a)
    simp only [lgE, hp2.1, ↓reduceIte]
    rw [m_soon h hw hD hst hi hv hp2.1 _ hN, hp2.2]
    have y := hp2.1
    unfold lgA at *
    simp (disch := omega) only [q_m14, ↓reduceIte, q_eq]
    by_cases x : wt = 0
    · simp only [x, ↓reduceIte]
    · simp only [x, ↓reduceIte]
  · show lp_X9_guessOf_3 N M (nI v) pl (nI wt) (some (-14)) (n + 1) (nI (a 1)) = _
    rw [lp_X9_guessOf_3]
    simp (disch := omega) only [i_1, q_gIn, q_cl, h _, q_le, Nat.le_refl, ↓reduceIte]
  · split <;> rfl
end MM8
