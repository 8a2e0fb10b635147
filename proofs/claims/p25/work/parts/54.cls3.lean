/-! ===== the class's bars ===== -/
def BrC (C : kS) (k : Nat) (a : kA) (m st : Nat) : Prop := ∀ f, f < sF a → C (k + 2) f = nI (bw a m st f)
section XX3
variable {C : kS} {a : kA} {N : Nat}
theorem x_lastRank (hF : C 106 4 = nI (sF a)) (hw : WF a) {k r : Nat} (hr : r < sF a) : f_X0_lastRankOfGroup N C k (nI r) (nI (a 5)) = some (nI (eog a r)) := by
  obtain ⟨w0, w1, w2, w3, w4, w5, w6, w7, wl, wp, wn, we⟩ := id hw
  have hle := sF_le hw
  have hm := Nat.div_mul_le_self r (a 5)
  have hiff : r / a 5 + 1 < sF a / a 5 ↔ ¬ sF a ≤ r / a 5 * a 5 + a 5 - 1 + a 5 := by
    have h1 : r / a 5 + 1 < sF a / a 5 ↔ (r / a 5 + 2) * a 5 ≤ sF a := Nat.le_div_iff_mul_le (show 0 < a 5 by omega)
    rw [h1, Nat.add_mul]
    omega
  unfold f_X0_lastRankOfGroup f_X1_size eog
  simp (disch := omega) only [i_1, q_le, w5.1, ↓reduceIte, q_nz, ob, hF, ↓jn_eq]
  rw [q_div (by omega) (by omega) (by omega), pk_mul, nI_add, q_sub (by omega), nI_add]
  by_cases z : r / a 5 + 1 < sF a / a 5
  · have z2 := hiff.mp z
    rw [if_pos z]
    simp (disch := omega) only [q_le, z2, ↓reduceIte, i_0, q_nT]
  · have z2 : sF a ≤ r / a 5 * a 5 + a 5 - 1 + a 5 := Classical.not_not.mp (fun q => z (hiff.mpr q))
    rw [if_neg z]
    simp (disch := omega) only [q_le, z2, ↓reduceIte, i_0, q_sub]
theorem x_barWidth (hF : FmC C a) (hw : WF a) {k m st f : Nat} (hm : m ≤ 3) (hst : 1 ≤ st ∧ st ≤ 50) (hf : f < sF a) : f_X0_barWidth N C k (nI f) (nI m) (nI st) (nI (a 5)) = some (nI (bw a m st f)) := by
  have hle := sF_le hw
  have hb := fw_le hw hf
  have hr := rk_lt hf
  have he := eog_lt hw hr
  obtain ⟨f1, f2, f3, f4, f5⟩ := hF
  unfold f_X0_barWidth bw f_X1_widthOf f_X1_widthAtRank f_X1_rankOf f_X1_size
  rw [x_at (k := 107) (n := 40) rfl (by omega) (by decide), x_at (k := 109) (n := 40) rfl (by omega) (by decide)]
  simp (disch := omega) only [ob, f3 f hf, f4 f hf, i_1, i_2, i_3, q_eq, x_lastRank f2 hw hr, f2, q_sub]
  rw [x_at (k := 111) (n := 40) rfl (by omega) (by decide), x_at (k := 111) (n := 40) rfl (by omega) (by decide)]
  simp (disch := omega) only [ob, f5 _ he, f5 (sF a - 1)]
  by_cases z1 : m = 1
  · simp only [z1, ↓reduceIte]
    unfold f_X0_upToMultiple
    simp (disch := omega) only [i_1, q_le, hst.1, ↓reduceIte, ↓jn_eq, q_nz, nI_add, q_sub, q_div, pk_mul, ob]
  · by_cases z2 : m = 2
    · simp only [z2, ↓reduceIte, Nat.reduceEqDiff]
    · by_cases z3 : m = 3
      · simp only [z3, ↓reduceIte, Nat.reduceEqDiff]
      · simp only [z1, z2, z3, ↓reduceIte]
theorem FmC.cg {C' : kS} (h : FmC C a) (h0 : C' 106 = C 106) (h1 : C' 108 = C 108) (h2 : C' 110 = C 110) (h3 : C' 112 = C 112) : FmC C' a := by
  unfold FmC
  rw [h0, h1, h2, h3]
  exact h
theorem x_draw (hF : FmC C a) (hw : WF a) {k m st : Nat} (hk : k = 113 ∨ k = 116) (hm : m ≤ 3) (hst : 1 ≤ st ∧ st ≤ 50) (hN : 3000 ≤ N) : ∃ C', f_X0_draw N C k (nI m) (nI st) (nI (a 5)) = some C' ∧ (∀ j, j ≠ k + 2 → C' j = C j) ∧ BrC C' k a m st := by
  have hle := sF_le hw
  have hln : ln (k + 1 + 1) = 40 := by
    rcases hk with h | h
    · subst h; rfl
    · subst h; rfl
  unfold f_X0_draw
  obtain ⟨C1, n, ⟨b0, b1⟩, e⟩ := lpN (fun n i (x : kS) => lp_X0_draw_3 N k (nI m) (nI st) (nI (a 5)) (fun C1 => some C1) n (nI i) x) (fun f x => (∀ j, j ≠ k + 2 → x j = C j) ∧ ∀ g, g < f → x (k + 2) g = nI (bw a m st g)) (sF a) (fun n f x hf hI => by
    obtain ⟨c0, c1⟩ := hI
    have hFx : FmC x a := hF.cg (c0 106 (by omega)) (c0 108 (by omega)) (c0 110 (by omega)) (c0 112 (by omega))
    refine ⟨up1 x (k + 2) (upd (x (k + 2)) f (nI (bw a m st f))), ⟨fun j hj => by rw [up1_n hj]; exact c0 j hj, fun g hg => ?_⟩, ?_⟩
    · rw [up1_s]
      by_cases z : g = f
      · subst z
        rw [pk_us]
      · rw [pk_un z]
        exact c1 g (by omega)
    · show lp_X0_draw_3 N k (nI m) (nI st) (nI (a 5)) _ (n + 1) (nI f) x = lp_X0_draw_3 N k (nI m) (nI st) (nI (a 5)) _ n (nI (f + 1)) _
      rw [lp_X0_draw_3]
      unfold f_X1_size
      simp (disch := omega) only [hFx.2.1, q_le, Nat.not_le.mpr hf, ↓reduceIte, ob, x_barWidth hFx hw hm hst hf, i_1, nI_add]
      rw [x_put (k := k + 1) hln (by omega) (by decide), ob]) (N := N) 0 C (Nat.zero_le _) (by omega) ⟨fun j _ => rfl, fun g hg => absurd hg (Nat.not_lt_zero g)⟩
  refine ⟨C1, ?_, b0, b1⟩
  simp only [↓jn_eq]
  refine Eq.trans ?_ (e.trans ?_)
  · rfl
  · show lp_X0_draw_3 N k (nI m) (nI st) (nI (a 5)) _ (n + 1) (nI (sF a)) C1 = _
    have q4 : C1 106 4 = nI (sF a) := by rw [b0 106 (by omega)]; exact hF.2.1
    rw [lp_X0_draw_3]
    unfold f_X1_size
    simp (disch := omega) only [ob, q4, q_le, Nat.le_refl, ↓reduceIte]
end XX3
