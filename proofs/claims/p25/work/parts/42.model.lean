/-! ===== the reference's readers over its state ===== -/
def SM (M : kS) (a : kA) : Prop := ∀ i, i < 642 → M 1 i = nI (a i)
def LW (a : kA) : Prop := ∀ k, k < 26 → 1 ≤ a (8 + k) ∧ a (8 + k) ≤ 9
section MM
variable {M : kS} {a : kA} {N : Nat}
theorem m_each (h : SM M a) : f_X9_each N M = some (nI (a 2 + 1)) := by
  unfold f_X9_each
  simp (disch := omega) only [i_2, i_1, q_gIn, q_cl, h _, nI_add]
theorem sW_le (hw : LW a) {p n : Nat} (hl : ∀ j, j < n → a (p + 1 + j) < 26) : ∀ i, i ≤ n → sW a p i ≤ 9 * i
  | 0, _ => Nat.le_refl 0
  | i + 1, hi => by
    have h1 := sW_le hw hl i (by omega)
    have h2 := hw _ (hl i (by omega))
    rw [sW]
    omega
theorem wd_le (hw : LW a) {p : Nat} (hl : ∀ j, j < a p → a (p + 1 + j) < 26) : wd a p ≤ 9 * a p := sW_le hw hl _ (Nat.le_refl _)
theorem m_widthAt (h : SM M a) (hw : LW a) {p : Nat} (hp : p + a p < 642) (hl : ∀ j, j < a p → a (p + 1 + j) < 26) (hN : 3000 ≤ N) : f_X9_widthAt N M (nI p) = some (nI (wd a p)) := by
  unfold f_X9_widthAt
  obtain ⟨n, e⟩ := lpF (fun n i (x : Int32) => lp_X9_widthAt_4 N M (nI p) (fun x1 => some x1) n x (nI (i + 1))) (fun i => nI (sW a p i)) (a p) (fun n i hi => by
    have e1 : p + (i + 1) = p + 1 + i := by omega
    have h1 := hl i hi
    rw [← e1] at h1
    show lp_X9_widthAt_4 N M (nI p) (fun x1 => some x1) (n + 1) (nI (sW a p i)) (nI (i + 1)) = lp_X9_widthAt_4 N M (nI p) (fun x1 => some x1) n (nI (sW a p (i + 1))) (nI (i + 1 + 1))
    rw [lp_X9_widthAt_4]
    simp (disch := omega) only [i_8, i_1, q_gIn, q_cl, h _, nI_add, q_lt, jn, if_neg]
    rw [sW, e1]) (N := N) 0 (Nat.zero_le _) (by omega)
  simp only [jn, i_0, i_1]
  refine e.trans ?_
  show lp_X9_widthAt_4 N M (nI p) (fun x1 => some x1) (n + 1) (nI (sW a p (a p))) (nI (a p + 1)) = _
  rw [lp_X9_widthAt_4]
  simp (disch := omega) only [q_gIn, q_cl, h _, q_lt, if_pos]
  rfl
end MM
