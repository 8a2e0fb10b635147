/-! ===== the class's sums ===== -/
theorem lpE {β : Type} (L : Nat → Int32 → Int32 → β) (F : Nat → Nat) (m : Nat) {R : β} {N : Nat} (hN : m < N) (hs : ∀ n w, w < m → L (n + 1) (nI (F w)) (nI w) = L n (nI (F (w + 1))) (nI (w + 1))) (he : ∀ n, L (n + 1) (nI (F m)) (nI m) = R) : L N (nI (F 0)) (nI 0) = R := by
  obtain ⟨n, e⟩ := lpF (fun n i (x : Int32) => L n x (nI i)) (fun i => nI (F i)) m (fun n i hi => hs n i hi) (N := N) 0 (Nat.zero_le _) hN
  exact e.trans (he n)
theorem lpB {β : Type} (L : Nat → Int32 → Int32 → β) (F : Nat → Nat) (b m : Nat) {R : β} {N : Nat} (hN : m < N) (hs : ∀ n w, w < m → L (n + 1) (nI (F w)) (nI (b + w)) = L n (nI (F (w + 1))) (nI (b + w + 1))) (he : ∀ n, L (n + 1) (nI (F m)) (nI (b + m)) = R) : L N (nI (F 0)) (nI b) = R := by
  obtain ⟨n, e⟩ := lpF (fun n i (x : Int32) => L n x (nI (b + i))) (fun i => nI (F i)) m (fun n i hi => hs n i hi) (N := N) 0 (Nat.zero_le _) hN
  exact e.trans (he n)
section XX6
variable {C : kS} {a : kA} {N m st : Nat}
theorem x_size (hS : StC C 4 a) : f_X7_size N C 5 = some (nI (a 0)) ∧ f_X7_size N C 10 = some (nI (a 1)) ∧ f_X7_size N C 15 = some (nI (a 2)) := by
  unfold f_X7_size
  rw [hS.1.2.2.1, hS.2.1.2.2.1, hS.2.2.1.2.2.1]
  exact ⟨rfl, rfl, rfl⟩
theorem x_rowW {k f : Nat} (hB : BrC C k a m st) (hk : k = 113 ∨ k = 116) (hw : WF a) (hf : f < sF a) : f_X3_at N C (k + 1) (nI f) = some (nI (bw a m st f)) := by
  have hle := sF_le hw
  have hln : ln (k + 1 + 1) = 40 := by
    rcases hk with h | h
    · subst h; rfl
    · subst h; rfl
  rw [x_at (k := k + 1) hln (by omega) (by decide), hB f hf]
theorem x_nu {k v : Nat} (hF : FmC C a) (hB : BrC C k a m st) (hk : k = 113 ∨ k = 116) (hw : WF a) (hst : 1 ≤ st ∧ st ≤ 50) (hv : v ≤ 1000) (hN : 3000 ≤ N) : f_X0_namesUnder N C k (nI v) = some (nI (nuM a m st v)) := by
  have hle := sF_le hw
  unfold f_X0_namesUnder
  rw [jn_eq, i_0]
  refine lpE (fun n x y => lp_X0_namesUnder_4 N C k (nI v) (fun x1 => some x1) n x y) (fun f => nu (bw a m st) (a 2 + 1) v f) (sF a) (by omega) (fun n f hf => ?_) (fun n => ?_)
  · have h8 := fq8 hw hf
    have hb := bw_le hw (m := m) hst hf
    have h6 := nu_256 (b := bw a m st) (e := a 2 + 1) (v := v) (n := f) (fun g hg => fq8 hw (by omega))
    rw [lp_X0_namesUnder_4, nu, x_rowW hB hk hw hf]
    unfold f_X1_size
    simp (disch := omega) only [hF.2.1, q_le, Nat.not_le.mpr hf, ob, ↓reduceIte, ↓jn_eq, q_eq, x_nameOf hF.1 hw.2.2.1, nI_bit]
    by_cases z : bw a m st f = v
    · simp only [z, ↓reduceIte, nI_bit _ h8, nI_or h6 (bit_256 h8), i_1, nI_add]
    · simp only [z, ↓reduceIte, i_1, nI_add]
  · rw [lp_X0_namesUnder_4]
    unfold f_X1_size
    simp (disch := omega) only [hF.2.1, q_le, Nat.le_refl, ob, ↓reduceIte]
    rfl
theorem x_leastGap {k nm v : Nat} (hF : FmC C a) (hB : BrC C k a m st) (hk : k = 113 ∨ k = 116) (hw : WF a) (hst : 1 ≤ st ∧ st ≤ 50) (hn : nm < a 1) (hv : v ≤ 500) (hN : 3000 ≤ N) : f_X0_leastGap N C k (nI nm) (nI v) = some (lgE (-nI 1) (lgA a m st nm v)) := by
  have hle := sF_le hw
  have w1 := hw.2.1
  unfold f_X0_leastGap
  simp only [↓jn_eq]
  rw [i_0, i_m1]
  obtain ⟨n, e⟩ := lpF (fun n i (x : Int32) => lp_X0_leastGap_5 N C k (nI nm) (nI v) (fun x1 => some x1) n x (nI i)) (fun i => lgE (-nI 1) (lg a m st nm v i)) (sF a) (fun n f hf => by
    have hb := bw_le hw (m := m) hst hf
    have hb2 := bw_ge hw (m := m) (f := f) hst.1 hf
    have hb3 := fw_le hw hf
    have hlb := lg_b a m st nm hv f
    have hq := fq hf
    show lp_X0_leastGap_5 N C k (nI nm) (nI v) _ (n + 1) (lgE (-nI 1) (lg a m st nm v f)) (nI f) = lp_X0_leastGap_5 N C k (nI nm) (nI v) _ n (lgE (-nI 1) (lg a m st nm v (f + 1))) (nI (f + 1))
    rw [lp_X0_leastGap_5, lg, x_rowW hB hk hw hf]
    unfold f_X1_size f_X1_widthOf
    rw [x_at (k := 107) (n := 40) rfl (by omega) (by decide), hF.2.2.1 f hf, i_m1]
    simp (disch := omega) only [hF.2.1, q_le, Nat.not_le.mpr hf, ob, ↓reduceIte, ↓jn_eq, q_eq, x_nameOf hF.1 hw.2.2.1, i_1, nI_add]
    by_cases z0 : f / (a 2 + 1) = nm
    · by_cases z : bw a m st f = v
      · have z3 : fw a f ≤ v := by omega
        simp (disch := omega) only [z0, z, ↓reduceIte, q_sub, true_and]
        by_cases y : lg a m st nm v f = 1000
        · have y2 : ¬ v - fw a f = 1000 := by omega
          have y3 : ¬ 1000 ≤ v - fw a f := by omega
          simp only [lgE, y, ↓reduceIte, y2, y3]
        · have y2 : ¬ v - fw a f = 1000 := by omega
          simp (disch := omega) only [lgE, y, ↓reduceIte, y2, q_m1n, q_lt]
          by_cases y3 : lg a m st nm v f ≤ v - fw a f
          · simp only [y3, ↓reduceIte, y, Nat.not_lt.mpr y3]
          · simp only [y3, ↓reduceIte, y2, Nat.lt_of_not_le y3]
      · simp only [z0, z, ↓reduceIte, and_false]
    · simp only [z0, ↓reduceIte, false_and]) (N := N) 0 (Nat.zero_le _) (by omega)
  refine Eq.trans ?_ (e.trans ?_)
  · rfl
  · show lp_X0_leastGap_5 N C k (nI nm) (nI v) _ (n + 1) (lgE (-nI 1) (lg a m st nm v (sF a))) (nI (sF a)) = _
    rw [lp_X0_leastGap_5]
    unfold f_X1_size
    simp (disch := omega) only [hF.2.1, q_le, Nat.le_refl, ob, ↓reduceIte]
    rfl
theorem x_ahead {n v : Nat} (hS : StC C 4 a) (hF : FmC C a) (hB : BrC C 113 a m st) (hw : WF a) (hst : 1 ≤ st ∧ st ≤ 50) (hn : n < a 1) (hv : v ≤ 500) (hg : lgA a m st n v ≠ 1000) (hN : 3000 ≤ N) : f_X8_guessesAheadOf N C (nI n) (nI (lgA a m st n v)) (nI v) = some (nI (ct (soon a m st n v) (a 1))) := by
  have w1 := hw.2.1
  unfold f_X8_guessesAheadOf
  simp only [↓jn_eq]
  rw [i_0]
  refine lpE (fun k x y => lp_X8_guessesAheadOf_6 N C (nI n) (nI (lgA a m st n v)) (nI v) (fun x1 => some x1) k x y) (fun i => ct (soon a m st n v) i) (a 1) (by omega) (fun k o ho => ?_) (fun k => ?_)
  · have hb := lg_b a m st o hv (sF a)
    have hb2 := lg_b a m st n hv (sF a)
    rw [lp_X8_guessesAheadOf_6, ct, x_leastGap hF hB (Or.inl rfl) hw hst ho hv hN, i_m1]
    simp (disch := omega) only [(x_size hS).2.1, q_le, Nat.not_le.mpr ho, ob, ↓reduceIte, ↓jn_eq, i_1, i_0, nI_add]
    by_cases y : lgA a m st o v = 1000
    · have ys : soon a m st n v o = false := decide_eq_false (fun q => q.1 y)
      simp only [lgE, y, ys, ↓reduceIte, nI_add, Bool.false_eq_true, Nat.add_zero, ite_self]
    · unfold lgA at y hg
      unfold lgA
      by_cases y1 : lg a m st o v (sF a) < lg a m st n v (sF a)
      · have ys : soon a m st n v o = true := decide_eq_true ⟨y, Or.inl y1⟩
        simp (disch := omega) only [lgE, y, ↓reduceIte, q_m1n, q_lt, y1, nI_add, ys, q_nT]
      · by_cases y2 : lg a m st o v (sF a) = lg a m st n v (sF a)
        · by_cases y3 : n ≤ o
          · have ys : soon a m st n v o = false := decide_eq_false (fun q => by unfold lgA at q; omega)
            simp (disch := omega) only [lgE, hg, y2, ↓reduceIte, q_m1n, q_lt, Nat.lt_irrefl, q_le, y3, nI_add, ys, Bool.false_eq_true, Nat.add_zero]
          · have ys : soon a m st n v o = true := decide_eq_true (by unfold lgA; exact ⟨y, Or.inr ⟨y2, by omega⟩⟩)
            simp (disch := omega) only [lgE, hg, y2, ↓reduceIte, q_m1n, q_lt, Nat.lt_irrefl, q_le, y3, nI_add, ys, q_nT]
        · have ys : soon a m st n v o = false := decide_eq_false (fun q => by unfold lgA at q; omega)
          simp (disch := omega) only [lgE, y, ↓reduceIte, q_m1n, q_lt, y1, q_eq, y2, nI_add, ys, Bool.false_eq_true, Nat.add_zero]
  · rw [lp_X8_guessesAheadOf_6]
    simp (disch := omega) only [(x_size hS).2.1, q_le, Nat.le_refl, ob, ↓reduceIte]
theorem x_sumW {k : Nat} (hS : StC C 4 a) (hH : HdC C a) (hB : BrC C k a m st) (hk : k = 113 ∨ k = 116) (hw : WF a) (hN : 3000 ≤ N) : f_X4_sumOfShownWidths N C k = some (nI (sumN (tm a m st 12) (a 0))) := by
  have w0 := hw.1
  unfold f_X4_sumOfShownWidths
  simp only [↓jn_eq]
  rw [i_0]
  refine lpE (fun n x y => lp_X4_sumOfShownWidths_4 N C k (fun x1 => some x1) n x y) (fun i => sumN (tm a m st 12) i) (a 0) (by omega) (fun n w hwd => ?_) (fun n => ?_)
  · rw [lp_X4_sumOfShownWidths_4, sumN, x_widthUnder hH hB hk hw hwd]
    simp (disch := omega) only [(x_size hS).1, q_le, Nat.not_le.mpr hwd, ob, ↓reduceIte, i_1, nI_add, tm]
  · rw [lp_X4_sumOfShownWidths_4]
    simp (disch := omega) only [(x_size hS).1, q_le, Nat.le_refl, ob, ↓reduceIte]
theorem x_nuW {k w : Nat} (hF : FmC C a) (hH : HdC C a) (hB : BrC C k a m st) (hk : k = 113 ∨ k = 116) (hw : WF a) (hst : 1 ≤ st ∧ st ≤ 50) (hwd : w < a 0) (hh : hid a w = true) (hN : 3000 ≤ N) : f_X4_namesUnder N C k (nI w) = some (nI (pop (nuM a m st (sh a m st w)))) := by
  obtain ⟨z1, z2⟩ := foV_t w hh
  have hb := bw_le hw (m := m) hst z2
  unfold f_X4_namesUnder
  simp (disch := omega) only [x_formOf hH hw hwd, ob, z1, x_barW hB hk hw z2, x_nu hF hB hk hw hst, x_bits (nuM_256 hw), sh_t w hh]
theorem x_betrayed {k : Nat} (hS : StC C 4 a) (hF : FmC C a) (hH : HdC C a) (hB : BrC C k a m st) (hk : k = 113 ∨ k = 116) (hw : WF a) (hst : 1 ≤ st ∧ st ≤ 50) (hN : 3000 ≤ N) : f_X4_betrayedBars N C k = some (nI (sumN (tm a m st 11) (a 0))) := by
  have w0 := hw.1
  unfold f_X4_betrayedBars
  simp only [↓jn_eq]
  rw [i_0]
  refine lpE (fun n x y => lp_X4_betrayedBars_4 N C k (fun x1 => some x1) n x y) (fun i => sumN (tm a m st 11) i) (a 0) (by omega) (fun n w hwd => ?_) (fun n => ?_)
  · have hp := pop_le (nuM a m st (sh a m st w))
    rw [lp_X4_betrayedBars_4, sumN, x_isHidden hH hw hwd]
    cases z : hid a w with
    | true =>
      rw [x_nuW hF hH hB hk hw hst hwd z hN]
      simp (disch := omega) only [(x_size hS).1, q_le, Nat.not_le.mpr hwd, ob, ↓reduceIte, ↓jn_eq, i_1, i_0, q_nT, q_eq, nI_add, tm, z, Nat.reduceEqDiff]
      by_cases y : pop (nuM a m st (sh a m st w)) = 1
      · simp only [y, ↓reduceIte]
      · simp only [y, ↓reduceIte, Nat.add_zero]
    | false => simp (disch := omega) only [(x_size hS).1, q_le, Nat.not_le.mpr hwd, ob, ↓reduceIte, ↓jn_eq, i_1, i_0, nI_add, tm, z, Nat.reduceEqDiff, Bool.false_eq_true, Nat.add_zero]
  · rw [lp_X4_betrayedBars_4]
    simp (disch := omega) only [(x_size hS).1, q_le, Nat.le_refl, ob, ↓reduceIte]
theorem x_gaps (hS : StC C 4 a) (hF : FmC C a) (hH : HdC C a) (hB : BrC C 113 a m st) (hw : WF a) (hst : 1 ≤ st ∧ st ≤ 50) (hN : 3000 ≤ N) : f_X4_sumOfGaps N C 113 = some (nI (sumN (tm a m st 13) (a 0))) := by
  have w0 := hw.1
  have hle := sF_le hw
  unfold f_X4_sumOfGaps
  simp only [↓jn_eq]
  rw [i_0]
  refine lpE (fun n x y => lp_X4_sumOfGaps_4 N C 113 (fun x1 => some x1) n x y) (fun i => sumN (tm a m st 13) i) (a 0) (by omega) (fun n w hwd => ?_) (fun n => ?_)
  · rw [lp_X4_sumOfGaps_4, sumN, x_isHidden hH hw hwd, x_formOf hH hw hwd]
    unfold f_X1_widthOf
    cases z : hid a w with
    | true =>
      obtain ⟨z1, z2⟩ := foV_t w z
      have hb := bw_ge hw (m := m) hst.1 z2
      have hx : f_X3_at N C 107 (nI (fo a w)) = some (nI (fw a (fo a w))) := by rw [x_at (k := 107) (n := 40) rfl (by omega) (by decide), hF.2.2.1 _ z2]
      rw [z1]
      simp (disch := omega) only [(x_size hS).1, q_le, Nat.not_le.mpr hwd, ob, ↓reduceIte, ↓jn_eq, i_1, i_0, q_nT, q_eq, nI_add, tm, z, Nat.reduceEqDiff, x_barW hB (Or.inl rfl) hw z2, ob, hx, q_sub, sh_t w z]
    | false => simp (disch := omega) only [(x_size hS).1, q_le, Nat.not_le.mpr hwd, ob, ↓reduceIte, ↓jn_eq, i_1, i_0, nI_add, tm, z, Nat.reduceEqDiff, Bool.false_eq_true, Nat.add_zero]
  · rw [lp_X4_sumOfGaps_4]
    simp (disch := omega) only [(x_size hS).1, q_le, Nat.le_refl, ob, ↓reduceIte]
theorem x_shown {w : Nat} (hD : ShC C a m st) (hw : WF a) (hwd : w < a 0) : f_X4_shownWidthOf N C (nI w) = some (nI (sh a m st w)) := by
  have w0 := hw.1
  unfold f_X4_shownWidthOf
  rw [x_at (k := 124) (n := 40) rfl (by omega) (by decide), ob, (hD.2.1 w hwd).1]
theorem x_barAhead {w : Nat} (hH : HdC C a) (hD : ShC C a m st) (hw : WF a) (hst : 1 ≤ st ∧ st ≤ 50) (hwd : w < a 0) (hN : 3000 ≤ N) : f_X4_hasBarAhead N C (nI w) = some (nI (if allB (fun k => !(hid a k && decide (sh a m st k = sh a m st w))) w = true then 0 else 1)) := by
  have w0 := hw.1
  have s1 := sh_le hw (m := m) hst hwd
  unfold f_X4_hasBarAhead
  simp only [↓jn_eq]
  rw [i_0, i_1, q_and0]
  refine (lpX (fun n i => lp_X4_hasBarAhead_2 N C (nI w) (some (nI 0)) n (nI i)) w (fun k => hid a k && decide (sh a m st k = sh a m st w)) (fun _ => some (nI 1)) (some (nI 0)) (fun n k hk hp => ?_) (fun n k hk hp => ?_) (fun n => ?_) (N := N) (by omega)).trans ?_
  · have s2 := sh_le hw (m := m) (w := k) hst (by omega)
    rw [lp_X4_hasBarAhead_2, x_isHidden hH hw (by omega), x_shown hD hw (by omega), x_shown hD hw hwd]
    cases z : hid a k with
    | true =>
      have hp2 : ¬ sh a m st k = sh a m st w := by
        simp only [z, Bool.true_and] at hp
        exact of_decide_eq_false hp
      simp (disch := omega) only [q_le, Nat.not_le.mpr hk, ob, ↓reduceIte, ↓jn_eq, i_1, i_0, q_nT, q_eq, hp2, nI_add, Nat.one_ne_zero]
    | false => simp (disch := omega) only [q_le, Nat.not_le.mpr hk, ob, ↓reduceIte, ↓jn_eq, i_1, i_0, nI_add, Bool.false_eq_true]
  · have s2 := sh_le hw (m := m) (w := k) hst (by omega)
    rw [lp_X4_hasBarAhead_2, x_isHidden hH hw (by omega), x_shown hD hw (by omega), x_shown hD hw hwd]
    have hp2 := Bool.and_eq_true_iff.mp hp
    have hp3 := of_decide_eq_true hp2.2
    simp (disch := omega) only [q_le, Nat.not_le.mpr hk, ob, ↓reduceIte, ↓jn_eq, i_1, i_0, q_nT, q_eq, hp2.1, hp3, q_and1, Nat.one_ne_zero]
  · rw [lp_X4_hasBarAhead_2]
    simp (disch := omega) only [q_le, Nat.le_refl, ob, ↓reduceIte]
  · rw [allB_fst]
    simp only [Bool.not_not]
    by_cases y : fst (fun k => hid a k && decide (sh a m st k = sh a m st w)) w < w
    · simp [y]
    · simp [y]
theorem x_diff (hS : StC C 4 a) (hH : HdC C a) (hD : ShC C a m st) (hw : WF a) (hst : 1 ≤ st ∧ st ≤ 50) (hN : 3000 ≤ N) : f_X4_differentBarWidths N C = some (nI (sumN (tm a m st 14) (a 0))) := by
  have w0 := hw.1
  unfold f_X4_differentBarWidths
  simp only [↓jn_eq]
  rw [i_0]
  refine lpE (fun n x y => lp_X4_differentBarWidths_4 N C (fun x1 => some x1) n x y) (fun i => sumN (tm a m st 14) i) (a 0) (by omega) (fun n w hwd => ?_) (fun n => ?_)
  · rw [lp_X4_differentBarWidths_4, sumN, x_isHidden hH hw hwd, x_barAhead hH hD hw hst hwd hN]
    cases z : hid a w with
    | true =>
      have hfr : frs a m st w = allB (fun k => !(hid a k && decide (sh a m st k = sh a m st w))) w := by unfold frs; rw [z, Bool.true_and]
      rw [← hfr]
      simp (disch := omega) only [(x_size hS).1, q_le, Nat.not_le.mpr hwd, ob, ↓reduceIte, ↓jn_eq, i_1, i_0, q_nT, q_eq, nI_add, tm, z, Nat.reduceEqDiff]
      by_cases y : frs a m st w = true
      · simp only [y, ↓reduceIte]
      · simp only [y, ↓reduceIte, Nat.add_zero, q_nT, Bool.false_eq_true]
    | false => simp (disch := omega) only [(x_size hS).1, q_le, Nat.not_le.mpr hwd, ob, ↓reduceIte, ↓jn_eq, i_1, i_0, nI_add, tm, z, Nat.reduceEqDiff, Bool.false_eq_true, Nat.add_zero]
  · rw [lp_X4_differentBarWidths_4]
    simp (disch := omega) only [(x_size hS).1, q_le, Nat.le_refl, ob, ↓reduceIte]
end XX6
