/-! ===== the class's hidden words ===== -/
theorem q_m1n {n : Nat} (h : n < 2147483648) : (nI n = -nI 1) = False := by
  rw [← i_m1]
  exact q_m1 h
theorem q_and1n : nI 1 &&& nI 1 = nI 1 := by decide
section XX4
variable {C : kS} {a : kA} {N : Nat}
theorem x_lenE (hS : StC C 4 a) (hw : WF a) (f : Nat) : f_X7_lengthOf N C 15 (nI (f % (a 2 + 1)) - nI 1) = some (nI (if f % (a 2 + 1) = 0 then 0 else a (feA a f))) := by
  have hr := fr (a := a) f
  by_cases z : f % (a 2 + 1) = 0
  · rw [if_pos z, z, q_en0, x_lengthN (by decide)]
  · rw [if_neg z, q_enp z, x_lengthOf (k := 15) (mw := 4) (ml := 3) hS.2.2.1 rfl (by decide) hw.2.2.1 (by omega)]
    rfl
theorem x_isForm (hS : StC C 4 a) (hw : WF a) {w f : Nat} (hwd : w < a 0) (hf : f < sF a) (hN : 3000 ≤ N) : f_X5_isForm N C (nI w) (nI (f / (a 2 + 1))) (nI (f % (a 2 + 1)) - nI 1) = some (nI (if isF a w f = true then 1 else 0)) := by
  obtain ⟨w0, w1, w2, w3, w4, w5, w6, w7, wl, wp, wn, we⟩ := id hw
  obtain ⟨hp, hn, he, hl, hs⟩ := id hS
  have hr := fr (a := a) f
  have hq := fq hf
  have b1 := wp w hwd
  have b2 := wn _ hq
  unfold f_X5_isForm
  rw [x_lenE hS hw f, x_lengthOf (k := 5) (mw := 40) (ml := 12) hp rfl (by decide) w0 hwd, x_lengthOf (k := 10) (mw := 8) (ml := 8) hn rfl (by decide) w1 hq]
  simp only [ob, jn_eq, nI_add]
  have hfl : a (554 + 9 * (f / (a 2 + 1))) + (if f % (a 2 + 1) = 0 then 0 else a (feA a f)) = fl a f := rfl
  have b3 : (if f % (a 2 + 1) = 0 then 0 else a (feA a f)) ≤ 3 := by
    split
    · omega
    · exact (we (f % (a 2 + 1) - 1) (by omega)).1.2
  rw [hfl]
  by_cases z : a (34 + 13 * w) = fl a f
  · rw [z, if_pos rfl]
    refine (lpX (fun n i => lp_X5_isForm_41 N C (nI w) (nI (f / (a 2 + 1))) (nI (f % (a 2 + 1)) - nI 1) (nI (fl a f)) (nI (a (554 + 9 * (f / (a 2 + 1))))) (some (1 &&& 1)) n (nI i)) (fl a f) (fun k => !decide (a (34 + 13 * w + 1 + k) = fc a f k)) (fun _ => some (0 &&& 1)) (some (1 &&& 1)) (fun n i hi hp2 => ?_) (fun n i hi hp2 => ?_) (fun n => ?_) (N := N) (by omega)).trans ?_
    · show lp_X5_isForm_41 N C (nI w) (nI (f / (a 2 + 1))) (nI (f % (a 2 + 1)) - nI 1) (nI (fl a f)) (nI (a (554 + 9 * (f / (a 2 + 1))))) (some (1 &&& 1)) (n + 1) (nI i) = lp_X5_isForm_41 N C (nI w) (nI (f / (a 2 + 1))) (nI (f % (a 2 + 1)) - nI 1) (nI (fl a f)) (nI (a (554 + 9 * (f / (a 2 + 1))))) (some (1 &&& 1)) n (nI (i + 1))
      have hp3 : a (34 + 13 * w + 1 + i) = fc a f i := by simpa using hp2
      have b4 := b1.2 i (by omega)
      rw [lp_X5_isForm_41, x_letterOf (k := 5) (mw := 40) (ml := 12) hp rfl (by decide) (by decide) w0 hwd (by omega) b1.1.2, hp3]
      simp (disch := omega) only [q_le, Nat.not_le.mpr hi, ↓reduceIte, ↓jn_eq]
      by_cases y : a (554 + 9 * (f / (a 2 + 1))) ≤ i
      · have z2 : ¬ f % (a 2 + 1) = 0 := fun q => by
          rw [if_pos q] at hfl
          omega
        rw [if_neg z2] at hfl b3
        have e1 : fc a f i = a (feA a f + 1 + (i - a (554 + 9 * (f / (a 2 + 1))))) := by unfold fc fnA; rw [if_neg (by omega)]
        simp (disch := omega) only [y, ↓reduceIte, q_sub]
        rw [x_letterOf (k := 15) (mw := 4) (ml := 3) he rfl (by decide) (by decide) w2 (w := f % (a 2 + 1) - 1) (by omega) (i := i - a (554 + 9 * (f / (a 2 + 1)))) (by show _ < a (feA a f); omega) b3]
        simp only [ob]
        rw [e1]
        have e2 : 626 + 4 * (f % (a 2 + 1) - 1) = feA a f := rfl
        rw [e2, if_pos rfl, i_1, nI_add]
      · have e1 : fc a f i = a (554 + 9 * (f / (a 2 + 1)) + 1 + i) := by unfold fc fnA; rw [if_pos (by omega)]
        simp only [y, ↓reduceIte]
        rw [x_letterOf (k := 10) (mw := 8) (ml := 8) hn rfl (by decide) (by decide) w1 hq (by omega) b2.1.2]
        simp only [ob]
        rw [e1, if_pos rfl, i_1, nI_add]
    · show lp_X5_isForm_41 N C (nI w) (nI (f / (a 2 + 1))) (nI (f % (a 2 + 1)) - nI 1) (nI (fl a f)) (nI (a (554 + 9 * (f / (a 2 + 1))))) (some (1 &&& 1)) (n + 2) (nI i) = some (0 &&& 1)
      have hp3 : ¬ a (34 + 13 * w + 1 + i) = fc a f i := by simpa using hp2
      have b4 := b1.2 i (by omega)
      rw [lp_X5_isForm_41, x_letterOf (k := 5) (mw := 40) (ml := 12) hp rfl (by decide) (by decide) w0 hwd (by omega) b1.1.2]
      simp (disch := omega) only [q_le, Nat.not_le.mpr hi, ↓reduceIte, ↓jn_eq]
      by_cases y : a (554 + 9 * (f / (a 2 + 1))) ≤ i
      · have z2 : ¬ f % (a 2 + 1) = 0 := fun q => by
          rw [if_pos q] at hfl
          omega
        rw [if_neg z2] at hfl b3
        have e1 : fc a f i = a (feA a f + 1 + (i - a (554 + 9 * (f / (a 2 + 1))))) := by unfold fc fnA; rw [if_neg (by omega)]
        have b5 := (we (f % (a 2 + 1) - 1) (by omega)).2 (i - a (554 + 9 * (f / (a 2 + 1)))) (by show _ < a (feA a f); omega)
        simp (disch := omega) only [y, ↓reduceIte, q_sub]
        rw [x_letterOf (k := 15) (mw := 4) (ml := 3) he rfl (by decide) (by decide) w2 (w := f % (a 2 + 1) - 1) (by omega) (i := i - a (554 + 9 * (f / (a 2 + 1)))) (by show _ < a (feA a f); omega) b3]
        simp only [ob]
        rw [e1] at hp3
        have e2 : 626 + 4 * (f % (a 2 + 1) - 1) = feA a f := rfl
        rw [e2] at b5 ⊢
        rw [if_neg (fun q => hp3 (by have := (nI_eq (by omega) (by omega)).mp q; omega))]
      · have e1 : fc a f i = a (554 + 9 * (f / (a 2 + 1)) + 1 + i) := by unfold fc fnA; rw [if_pos (by omega)]
        have b5 := b2.2 i (by omega)
        simp only [y, ↓reduceIte]
        rw [x_letterOf (k := 10) (mw := 8) (ml := 8) hn rfl (by decide) (by decide) w1 hq (by omega) b2.1.2]
        simp only [ob]
        rw [e1] at hp3
        rw [if_neg (fun q => hp3 (by have := (nI_eq (by omega) (by omega)).mp q; omega))]
    · show lp_X5_isForm_41 N C (nI w) (nI (f / (a 2 + 1))) (nI (f % (a 2 + 1)) - nI 1) (nI (fl a f)) (nI (a (554 + 9 * (f / (a 2 + 1))))) (some (1 &&& 1)) (n + 1) (nI (fl a f)) = some (1 &&& 1)
      rw [lp_X5_isForm_41]
      simp (disch := omega) only [q_le, Nat.le_refl, ↓reduceIte]
    · have e1 : isF a w f = decide (¬ fst (fun k => !decide (a (34 + 13 * w + 1 + k) = fc a f k)) (fl a f) < fl a f) := by
        unfold isF
        rw [z, decide_eq_true rfl, Bool.true_and, allB_fst]
      rw [e1]
      by_cases y : fst (fun k => !decide (a (34 + 13 * w + 1 + k) = fc a f k)) (fl a f) < fl a f
      · simp only [y, ↓reduceIte, not_true, decide_false, Bool.false_eq_true, i_0, i_1, q_and0]
      · simp only [y, ↓reduceIte, not_false_iff, decide_true, i_1, q_and1]
  · have e1 : isF a w f = false := by
      unfold isF
      rw [decide_eq_false z, Bool.false_and]
    have e2 : ¬ nI (a (34 + 13 * w)) = nI (fl a f) := fun q => z ((nI_eq (by omega) (by omega)).mp q)
    rw [if_neg e2, e1, i_0, i_1, q_and0]
    rfl
theorem x_hide1 (hS : StC C 4 a) (hF : FmC C a) (hw : WF a) {w : Nat} (hwd : w < a 0) (kont : Int32 → Option kS) (hN : 3000 ≤ N) : lp_X4_hideWords_20 N (nI w) C kont N (-nI 1) (nI 0) = kont (foV a w) := by
  have hle := sF_le hw
  have hF1 : f_X1_size N C = some (nI (sF a)) := by unfold f_X1_size; rw [hF.2.1]
  refine (lpX (fun n i => lp_X4_hideWords_20 N (nI w) C kont n (-nI 1) (nI i)) (sF a) (isF a w) (fun f => kont (nI f)) (kont (-nI 1)) (fun n f hf hp => ?_) (fun n f hf hp => ?_) (fun n => ?_) (N := N) (by omega)).trans ?_
  · show lp_X4_hideWords_20 N (nI w) C kont (n + 1) (-nI 1) (nI f) = lp_X4_hideWords_20 N (nI w) C kont n (-nI 1) (nI (f + 1))
    rw [lp_X4_hideWords_20, i_m1]
    simp (disch := omega) only [hF1, ob, q_le, Nat.not_le.mpr hf, ↓reduceIte, x_nameOf hF.1 hw.2.2.1, x_endingOf hF.1 hw.2.2.1, x_isForm hS hw hwd hf hN, hp, Bool.false_eq_true, i_0, i_1, ↓jn_eq, nI_add]
  · show lp_X4_hideWords_20 N (nI w) C kont (n + 2) (-nI 1) (nI f) = kont (nI f)
    rw [lp_X4_hideWords_20, i_m1]
    simp (disch := omega) only [hF1, ob, q_le, Nat.not_le.mpr hf, ↓reduceIte, x_nameOf hF.1 hw.2.2.1, x_endingOf hF.1 hw.2.2.1, x_isForm hS hw hwd hf hN, hp, i_0, i_1, ↓jn_eq, nI_add, q_nT]
    rw [lp_X4_hideWords_20, i_m1]
    simp (disch := omega) only [hF1, ob, q_m1n, ↓reduceIte, ite_self]
  · show lp_X4_hideWords_20 N (nI w) C kont (n + 1) (-nI 1) (nI (sF a)) = kont (-nI 1)
    rw [lp_X4_hideWords_20]
    simp (disch := omega) only [hF1, ob, q_le, Nat.le_refl, ↓reduceIte]
  · unfold foV fo
    split
    · rfl
    · rw [i_m1]
def HdC (C : kS) (a : kA) : Prop := ∀ w, w < a 0 → C 121 w = foV a w ∧ C 123 w = nI (wd a (34 + 13 * w))
theorem x_hideWords (hS : StC C 4 a) (hF : FmC C a) (hw : WF a) (hN : 3000 ≤ N) : ∃ C', f_X4_hideWords N C = some C' ∧ (∀ j, j ≠ 121 → j ≠ 123 → C' j = C j) ∧ HdC C' a := by
  obtain ⟨w0, w1, w2, w3, w4, w5, w6, w7, wl, wp, wn, we⟩ := id hw
  unfold f_X4_hideWords
  obtain ⟨C1, n, ⟨b0, b1⟩, e⟩ := lpN (fun n i (x : kS) => lp_X4_hideWords_2 N (fun C1 => some C1) n (nI i) x) (fun w x => (∀ j, j ≠ 121 → j ≠ 123 → x j = C j) ∧ ∀ v, v < w → x 121 v = foV a v ∧ x 123 v = nI (wd a (34 + 13 * v))) (a 0) (fun n w x hwd hI => by
    obtain ⟨c0, c1⟩ := hI
    have hFx : FmC x a := hF.cg (c0 106 (by decide) (by decide)) (c0 108 (by decide) (by decide)) (c0 110 (by decide) (by decide)) (c0 112 (by decide) (by decide))
    have hSx : StC x 4 a := hS.cg (fun j h1 h2 => c0 j (by omega) (by omega))
    have hSy : StC (up1 x 121 (upd (x 121) w (foV a w))) 4 a := hSx.cg (fun j h1 h2 => up1_n (by omega))
    have e1 : f_X7_size N x 5 = some (nI (a 0)) := by unfold f_X7_size; rw [hSx.1.2.2.1]
    refine ⟨up1 (up1 x 121 (upd (x 121) w (foV a w))) 123 (upd (x 123) w (nI (wd a (34 + 13 * w)))), ⟨fun j h1 h2 => by rw [up1_n h2, up1_n h1]; exact c0 j h1 h2, fun v hv => ?_⟩, ?_⟩
    · rw [up1_s, up1_n (show (121 : Nat) ≠ 123 by decide), up1_s]
      by_cases z : v = w
      · subst z
        rw [pk_us, pk_us]
        exact ⟨rfl, rfl⟩
      · rw [pk_un z, pk_un z]
        exact c1 v (by omega)
    · show lp_X4_hideWords_2 N _ (n + 1) (nI w) x = lp_X4_hideWords_2 N _ n (nI (w + 1)) _
      rw [lp_X4_hideWords_2, e1]
      simp (disch := omega) only [ob, q_le, Nat.not_le.mpr hwd, ↓reduceIte, ↓jn_eq, i_m1, i_0]
      simp only [i_1]
      rw [x_hide1 hSx hFx hw hwd _ hN]
      rw [x_put (k := 120) (n := 40) rfl (by omega) (by decide), ob, x_widthOf (k := 5) (mw := 40) (ml := 12) hSy.1 rfl rfl (by decide) (by decide) w0 hSy.2.2.2.1 wl wp hwd hN, ob, x_put (k := 122) (n := 40) rfl (by omega) (by decide), ob, nI_add]
      rfl) (N := N) 0 C (Nat.zero_le _) (by omega) ⟨fun j _ _ => rfl, fun g hg => absurd hg (Nat.not_lt_zero g)⟩
  refine ⟨C1, ?_, b0, b1⟩
  simp only [↓jn_eq]
  refine Eq.trans ?_ (e.trans ?_)
  · rfl
  · show lp_X4_hideWords_2 N _ (n + 1) (nI (a 0)) C1 = _
    have e1 : f_X7_size N C1 5 = some (nI (a 0)) := by unfold f_X7_size; rw [b0 5 (by decide) (by decide), hS.1.2.2.1]
    rw [lp_X4_hideWords_2, e1]
    simp (disch := omega) only [ob, q_le, Nat.le_refl, ↓reduceIte]
end XX4
