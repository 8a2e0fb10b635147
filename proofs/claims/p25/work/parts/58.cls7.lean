/-! ===== any number is below nothing or a natural one ===== -/
theorem sg (v : Int32) : v < 0 ∨ ∃ k, k < 2147483648 ∧ v = nI k := by
  rcases Int.lt_or_le v.toInt 0 with h | h
  · exact Or.inl (Int32.lt_iff_toInt_lt.mpr h)
  · refine Or.inr ⟨v.toInt.toNat, ?_, ?_⟩
    · have := Int32.toInt_lt v
      omega
    · have h1 := Int32.toInt_lt v
      apply Int32.toInt_inj.mp
      rw [nI_toInt (by omega)]
      omega
/-! ===== lines ===== -/
section XX7
variable {C : kS} {a : kA} {N m st : Nat}
theorem lno_mono {s : Nat → Nat} {gp lw v w : Nat} (h : v ≤ w) : lno s gp lw v ≤ lno s gp lw w := by
  have h1 := ly_mono (s := s) (gp := gp) (lw := lw) (v := v + 1) (w - v)
  rw [show v + 1 + (w - v) = w + 1 by omega] at h1
  unfold lno
  omega
def lnN (a : kA) (m st : Nat) : Nat := (ly (sh a m st) (a 6) (a 7) (a 0)).1
def fsL (a : kA) (m st l : Nat) : Nat := fst (isL a m st l) (a 0)
def bhL (a : kA) (m st l : Nat) : Nat := if lnN a m st ≤ l + 1 then a 0 else fsL a m st (l + 1)
theorem fsL_yes {l : Nat} (h : fsL a m st l < a 0) : lno (sh a m st) (a 6) (a 7) (fsL a m st l) = l := of_decide_eq_true (fst_yes (isL a m st l) (a 0) h)
theorem isL_iff (hD : ShC C a m st) {l w : Nat} (hl : l < lnN a m st) (hwd : w < a 0) : isL a m st l w = true ↔ fsL a m st l ≤ w ∧ w < bhL a m st l := by
  have h1 := (hD.2.2 l hl).2
  have h2 := fsL_yes h1
  have hi : isL a m st l w = true ↔ lno (sh a m st) (a 6) (a 7) w = l := decide_eq_true_iff
  have hlt := lno_lt (s := sh a m st) (gp := a 6) (lw := a 7) hwd
  rw [hi]
  constructor
  · intro e
    have h3 : fsL a m st l ≤ w := by
      rcases Nat.lt_or_ge w (fsL a m st l) with q | q
      · have h4 := fst_no (isL a m st l) (a 0) w q
        exact absurd e (of_decide_eq_false h4)
      · exact q
    refine ⟨h3, ?_⟩
    unfold bhL
    split
    · exact hwd
    · rename_i z
      have h5 := (hD.2.2 (l + 1) (by unfold lnN at z; omega)).2
      have h6 := fsL_yes h5
      rcases Nat.lt_or_ge w (fsL a m st (l + 1)) with q | q
      · exact q
      · have h7 := lno_mono (s := sh a m st) (gp := a 6) (lw := a 7) q
        omega
  · rintro ⟨h3, h4⟩
    have h5 := lno_mono (s := sh a m st) (gp := a 6) (lw := a 7) h3
    unfold bhL at h4
    split at h4
    · rename_i z
      unfold lnN at z
      omega
    · rename_i z
      have h6 := (hD.2.2 (l + 1) (by unfold lnN at z; omega)).2
      have h7 := fsL_yes h6
      have h8 := lno_mono (s := sh a m st) (gp := a 6) (lw := a 7) (Nat.le_of_lt h4)
      have h9 := fst_no (isL a m st (l + 1)) (a 0) w h4
      have h10 := of_decide_eq_false h9
      omega
theorem bhL_b (hD : ShC C a m st) {l : Nat} (hl : l < lnN a m st) : fsL a m st l < bhL a m st l ∧ bhL a m st l ≤ a 0 := by
  have h1 := (hD.2.2 l hl).2
  refine ⟨((isL_iff hD hl h1).mp (fst_yes (isL a m st l) (a 0) h1)).2, ?_⟩
  unfold bhL
  split
  · exact Nat.le_refl _
  · exact fst_le _ _
theorem x_lineFacts (hS : StC C 4 a) (hD : ShC C a m st) (hw : WF a) {l : Nat} (hl : l < lnN a m st) : f_X4_firstWordOf N C (nI l) = some (nI (fsL a m st l)) ∧ f_X4_firstWordBehind N C (nI l) = some (nI (bhL a m st l)) := by
  have w0 := hw.1
  have h0 := (ly_b (s := sh a m st) (gp := a 6) (lw := a 7) (n := 0) (fun v hv => absurd hv (Nat.not_lt_zero v)) hw.2.2.2.2.2.2.1.2 hw.2.2.2.2.2.2.2.1.2 0 (Nat.le_refl _)).1
  have hb : lnN a m st ≤ a 0 := by
    have := hD.2.2 l hl
    rcases Nat.lt_or_ge (a 0) (lnN a m st) with q | q
    · have h3 := (hD.2.2 (a 0) q).2
      have h4 := fsL_yes h3
      have h5 : ∀ w, w ≤ a 0 → (ly (sh a m st) (a 6) (a 7) w).1 ≤ w := by
        intro w
        induction w with
        | zero => intro _; exact Nat.le_refl 0
        | succ w ih =>
          intro hh
          have := ih (by omega)
          rw [ly]
          split
          · simp; omega
          · simp; omega
      exact h5 _ (Nat.le_refl _)
    · exact q
  have hl2 : l < (ly (sh a m st) (a 6) (a 7) (a 0)).1 := hl
  constructor
  · unfold f_X4_firstWordOf
    rw [x_at (k := 130) (n := 40) rfl (by omega) (by decide), ob, (hD.2.2 l hl).1]
    rfl
  · unfold f_X4_firstWordBehind bhL
    rw [hD.1, i_1, nI_add]
    have hb2 : (ly (sh a m st) (a 6) (a 7) (a 0)).1 ≤ a 0 := hb
    unfold lnN
    by_cases z : (ly (sh a m st) (a 6) (a 7) (a 0)).1 ≤ l + 1
    · simp (disch := omega) only [q_le, z, ↓reduceIte, ↓jn_eq, (x_size hS).1, ob]
    · simp (disch := omega) only [q_le, z, ↓reduceIte, ↓jn_eq]
      rw [x_at (k := 130) (n := 40) rfl (by omega) (by decide), ob, (hD.2.2 (l + 1) (by omega)).1]
      rfl
theorem x_bars {S : Nat → Nat} (hH : HdC C a) (hw : WF a) {b n : Nat} (h0 : S 0 = 0) (hb : b + n ≤ a 0) (hs : ∀ i, i < n → S (i + 1) = S i + (if hid a (b + i) = true then 1 else 0)) (hN : 3000 ≤ N) : f_X4_barsBetween N C (nI b) (nI (b + n)) = some (nI (S n)) := by
  have w0 := hw.1
  unfold f_X4_barsBetween
  simp only [↓jn_eq]
  rw [i_0, ← h0]
  refine lpB (fun k x y => lp_X4_barsBetween_5 N C (nI (b + n)) (fun x1 => some x1) k x y) S b n (by omega) (fun k i hi => ?_) (fun k => ?_)
  · rw [lp_X4_barsBetween_5, x_isHidden hH hw (by omega), hs i hi]
    cases z : hid a (b + i) with
    | true => simp (disch := omega) only [q_le, if_neg, ob, ↓reduceIte, ↓jn_eq, i_0, i_1, q_nT, nI_add]
    | false => simp (disch := omega) only [q_le, if_neg, ob, ↓reduceIte, ↓jn_eq, i_0, i_1, nI_add, Bool.false_eq_true, Nat.add_zero]
  · rw [lp_X4_barsBetween_5]
    simp (disch := omega) only [q_le, Nat.le_refl, ↓reduceIte]
theorem x_widthB {S : Nat → Nat} (hS : StC C 4 a) (hD : ShC C a m st) (hw : WF a) {b n : Nat} (h0 : S 0 = 0) (hb : b + n ≤ a 0) (hs : ∀ i, i < n → S (i + 1) = S i + (sh a m st (b + i) + (if i = 0 then 0 else a 6))) (hN : 3000 ≤ N) : f_X4_widthBetween N C (nI b) (nI (b + n)) = some (nI (S n)) := by
  have w0 := hw.1
  have e3 : C 23 3 = nI (a 6) := hS.2.2.2.2 3 (by decide)
  unfold f_X4_widthBetween
  simp only [↓jn_eq]
  rw [i_0, ← h0]
  refine lpB (fun k x y => lp_X4_widthBetween_5 N C (nI b) (nI (b + n)) (fun x1 => some x1) k x y) S b n (by omega) (fun k i hi => ?_) (fun k => ?_)
  · rw [lp_X4_widthBetween_5, x_shown hD hw (by omega), hs i hi, i_3, x_at (k := 22) (n := 5) rfl (by decide) (by decide), e3]
    by_cases z : i = 0
    · have z2 : b + i ≤ b := by omega
      simp (disch := omega) only [q_le, if_neg, ob, ↓reduceIte, ↓jn_eq, i_0, i_1, nI_add, z2, z, Nat.add_zero]
      simp (disch := omega) only [q_le, Nat.le_refl, ↓reduceIte]
    · have z2 : ¬ b + i ≤ b := by omega
      simp (disch := omega) only [q_le, if_neg, ob, ↓reduceIte, ↓jn_eq, i_0, i_1, nI_add, z2, z, Nat.add_assoc]
  · rw [lp_X4_widthBetween_5]
    simp (disch := omega) only [q_le, Nat.le_refl, ↓reduceIte]
end XX7
