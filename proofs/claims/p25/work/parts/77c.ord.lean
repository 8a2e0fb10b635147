/-! ===== the two ways to number forms ===== -/
def ul (a : kA) (g : Nat) : Nat := 3 * (g / (a 2 + 1)) + g % (a 2 + 1)
section OO
variable {L : kS} {a : kA} {N : Nat}
theorem sF_12 (hb : LB a) : sF a ≤ 12 := by
  have h1 := hb.2.1
  have h2 := hb.2.2.1
  unfold sF
  exact Nat.le_trans (Nat.mul_le_mul h1 (Nat.succ_le_succ h2)) (by decide)
theorem ul_ok (hb : LB a) {g : Nat} (hg : g < sF a) : vl a (ul a g) = true ∧ ph a (ul a g) = g ∧ ul a g < 12 ∧ ul a g / 3 = g / (a 2 + 1) ∧ ul a g % 3 = g % (a 2 + 1) := by
  have h1 := hb.2.1
  have h2 := hb.2.2.1
  have h3 : g / (a 2 + 1) < a 1 := (Nat.div_lt_iff_lt_mul (Nat.succ_pos _)).mpr hg
  have h4 : g % (a 2 + 1) < a 2 + 1 := Nat.mod_lt _ (Nat.succ_pos _)
  have h5 : ul a g / 3 = g / (a 2 + 1) := by unfold ul; omega
  have h6 : ul a g % 3 = g % (a 2 + 1) := by unfold ul; omega
  refine ⟨decide_eq_true ⟨by rw [h5]; exact h3, by rw [h6]; omega⟩, ?_, by unfold ul; omega, h5, h6⟩
  unfold ph
  rw [h5, h6, Nat.mul_comm]
  exact Nat.div_add_mod _ _
theorem ph_mono {j k : Nat} (hj : vl a j = true) (hjk : j < k) : ph a j < ph a k := by
  have h1 := of_decide_eq_true hj
  unfold ph
  rcases (show j / 3 = k / 3 ∨ j / 3 + 1 ≤ k / 3 by omega) with e | e
  · rw [e]
    omega
  · have h2 := Nat.mul_le_mul_right (a 2 + 1) e
    rw [Nat.succ_mul] at h2
    omega
theorem ph_inj {j k : Nat} (hj : vl a j = true) (hk : vl a k = true) (h : ph a j = ph a k) : j = k := by
  rcases Nat.lt_trichotomy j k with q | q | q
  · have := ph_mono hj q
    omega
  · exact q
  · have := ph_mono hk q
    omega
theorem ul_ph (hb : LB a) {j : Nat} (hj : vl a j = true) : ul a (ph a j) = j := by
  obtain ⟨h1, h2, -⟩ := ul_ok hb (ph_lt hj)
  exact ph_inj h1 hj h2
theorem wS_b {x c : Nat → Nat} : ∀ {n : Nat}, (∀ i, i < n → c i < 26) → (∀ k, k < 26 → 1 ≤ x k ∧ x k ≤ 9) → n ≤ wS x c n ∧ wS x c n ≤ 9 * n
  | 0, _, _ => ⟨Nat.le_refl 0, Nat.le_refl 0⟩
  | n + 1, h, hx => by
    have ih := wS_b (x := x) (c := c) (n := n) (fun i hi => h i (by omega)) hx
    have h1 := hx _ (h n (by omega))
    rw [wS]
    omega
theorem fw_eq (hw : WF a) {f : Nat} (h : vl a f = true) : fw a (ph a f) = wS (lx a) (fc a (ph a f)) (fl a (ph a f)) := by
  obtain ⟨h1, h2⟩ := ph_div h
  obtain ⟨c1, c2⟩ := fc_eq h
  unfold fw wd fnA feA
  rw [c1, c2, h1, h2, sW_wS]
  by_cases y : f % 3 = 0
  · rw [if_pos y, if_pos y, Nat.add_zero, Nat.add_zero]
    exact wS_congr (fun i hi => (if_pos hi).symm)
  · rw [if_neg y, if_neg y, sW_wS, wS_app]
theorem fw_b (hw : WF a) (hb : LB a) {f : Nat} (h : vl a f = true) : 1 ≤ fw a (ph a f) ∧ fw a (ph a f) ≤ 45 := by
  have h1 := wS_b (x := lx a) (fc_ok hw h) (fun k hk => hw.2.2.2.2.2.2.2.2.1 k hk)
  have h2 := fl_le hb h
  have h3 := fl_pos hw h
  rw [fw_eq hw h]
  omega
theorem f_fwid (hw : WF a) (hb : LB a) (hL : LR L a) {f : Nat} (h : vl a f = true) (hN : 3000 ≤ N) : f_L_width N L (lN (fv a f)) = some (nI (fw a (ph a f))) := by
  unfold fv
  rw [if_pos h, fw_eq hw h]
  exact f_wid (x := lx a) (fun k hk => hL.2.1 k hk) (fc_ok hw h) (fl_le hb h) hN
theorem f_wwid (hw : WF a) (hb : LB a) (hL : LR L a) {w : Nat} (h : w < a 0) (hN : 3000 ≤ N) : f_L_width N L ((L 2 w).toInt64) = some (nI (wd a (34 + 13 * w))) := by
  have h1 := pg_ok hw h
  have h2 := hb.2.2.2.1 w h
  rw [hL.2.2.1 w h, nI_l (Nat.lt_trans (enc_small h1 h2) (by decide))]
  unfold wd
  rw [sW_wS]
  exact f_wid (x := lx a) (fun k hk => hL.2.1 k hk) h1 h2 hN
/-- a word is the form f -/
theorem isF_fv (hw : WF a) (hb : LB a) {w f : Nat} (hwd : w < a 0) : (fv a f = enc (lc a (34 + 13 * w)) (a (34 + 13 * w))) ↔ (vl a f = true ∧ isF a w (ph a f) = true) := by
  have hp := pg_ok hw hwd
  have hp1 := (hw.2.2.2.2.2.2.2.2.2.1 w hwd).1.1
  unfold fv
  constructor
  · intro h
    cases z : vl a f with
    | false =>
      rw [z, if_neg (by decide)] at h
      have := enc_pos (c := lc a (34 + 13 * w)) (n := a (34 + 13 * w)) (by omega)
      omega
    | true =>
      rw [z, if_pos rfl] at h
      obtain ⟨e1, e2⟩ := enc_inj (fc_ok hw z) hp h
      refine ⟨rfl, ?_⟩
      unfold isF
      rw [Bool.and_eq_true, allB_iff]
      refine ⟨decide_eq_true e1.symm, fun k hk => decide_eq_true ?_⟩
      exact (e2 k (by omega)).symm
  · rintro ⟨z, h⟩
    rw [if_pos z]
    unfold isF at h
    rw [Bool.and_eq_true, allB_iff] at h
    have e1 : a (34 + 13 * w) = fl a (ph a f) := of_decide_eq_true h.1
    rw [← e1]
    exact enc_congr (fun i hi => (of_decide_eq_true (h.2 i hi)).symm)
/-- the law's number of the form that hides a word, -1 if there is none -/
def fmI (a : kA) (w : Nat) : Int32 := if fo a w < sF a then nI (ul a (fo a w)) else -1
theorem f_formOf (hw : WF a) (hb : LB a) (hL : LR L a) {w : Nat} (hwd : w < a 0) (hN : 3000 ≤ N) : f_L_formOf N L (nI w) = some (fmI a w) := by
  have w8 := hb.1
  have hp := pg_ok hw hwd
  have hpl := hb.2.2.2.1 w hwd
  have hs := enc_small hp hpl
  unfold f_L_formOf
  simp only [jn]
  obtain ⟨⟨x3, x4⟩, n, ⟨h1, h2⟩, e⟩ := lpN (fun n i (y : Int32 × Int32) => lp_L_formOf_6 N L (nI w) (fun x1 => some x1) n y.1 y.2) (fun i y => y.2 = nI (12 - i) - 1 ∧ ((∃ j, 12 - i ≤ j ∧ j < 12 ∧ (vl a j = true ∧ isF a w (ph a j) = true) ∧ (∀ k, 12 - i ≤ k → k < j → ¬ (vl a k = true ∧ isF a w (ph a k) = true)) ∧ y.1 = nI j) ∨ ((∀ j, 12 - i ≤ j → j < 12 → ¬ (vl a j = true ∧ isF a w (ph a j) = true)) ∧ y.1 = -1))) 12 (fun n i y hi hI => by
    obtain ⟨x3, x4⟩ := y
    obtain ⟨h1, h2⟩ := hI
    simp only at h1 h2
    subst h1
    have e0 : nI (12 - i) - 1 = nI (11 - i) := by rw [i_1, q_sub (by omega), show 12 - i - 1 = 11 - i by omega]
    have e1 : nI (11 - i) + (-1 : Int32) = nI (12 - (i + 1)) - 1 := by rw [show 12 - (i + 1) = 11 - i by omega, Int32.sub_eq_add_neg]
    have hcmp : (lg_cmp (lN (fv a (11 - i))) (lN (enc (lc a (34 + 13 * w)) (a (34 + 13 * w)))) = (0 : Int32)) = (vl a (11 - i) = true ∧ isF a w (ph a (11 - i)) = true) := (lg_eq0 (by have := fv_lt hw hb (11 - i); omega) (by omega)).trans (propext (isF_fv hw hb hwd))
    refine ⟨(if (vl a (11 - i) = true ∧ isF a w (ph a (11 - i)) = true) then nI (11 - i) else x3, nI (12 - (i + 1)) - 1), ⟨rfl, ?_⟩, ?_⟩
    · simp only
      by_cases z : vl a (11 - i) = true ∧ isF a w (ph a (11 - i)) = true
      · rw [if_pos z]
        exact Or.inl ⟨11 - i, by omega, by omega, z, fun k k1 k2 => absurd k2 (by omega), rfl⟩
      · rw [if_neg z]
        rcases h2 with ⟨j, j1, j2, j3, j4, j5⟩ | ⟨j1, j2⟩
        · refine Or.inl ⟨j, by omega, j2, j3, fun k k1 k2 => ?_, j5⟩
          by_cases y : k = 11 - i
          · rw [y]; exact z
          · exact j4 k (by omega) k2
        · refine Or.inr ⟨fun j k1 k2 => ?_, j2⟩
          by_cases y : j = 11 - i
          · rw [y]; exact z
          · exact j1 j (by omega) k2
    · show lp_L_formOf_6 N L (nI w) (fun x1 => some x1) (n + 1) x3 (nI (12 - i) - 1) = lp_L_formOf_6 N L (nI w) (fun x1 => some x1) n _ (nI (12 - (i + 1)) - 1)
      rw [lp_L_formOf_6, e0, if_neg (nI_pos (by omega)), f_form hw hb hL (by omega) hN, ob, q_gIn (by omega) (by decide), q_cl (by omega), hL.2.2.1 w hwd, nI_l (by omega)]
      simp only [hcmp, jn, e1]
      split
      · rfl
      · rfl) (N := N) 0 (-1, 11) (Nat.zero_le _) (by omega) ⟨by decide, Or.inr ⟨fun j h1 h2 => absurd h2 (by omega), rfl⟩⟩
  refine e.trans ?_
  simp only at h1 h2
  show lp_L_formOf_6 N L (nI w) (fun x1 => some x1) (n + 1) x3 x4 = _
  rw [lp_L_formOf_6, h1, if_pos (by decide)]
  unfold fmI
  rcases h2 with ⟨j, j1, j2, ⟨j3, j4⟩, j5, j6⟩ | ⟨j1, j2⟩
  · have e1 : fo a w = ph a j := fst_uniq (ph_lt j3) j4 (fun g hg => by
      cases z : isF a w g with
      | false => rfl
      | true =>
        obtain ⟨u1, u2, u3, -⟩ := ul_ok hb (Nat.lt_trans hg (ph_lt j3))
        have hlt : ul a g < j := by
          rcases Nat.lt_or_ge (ul a g) j with q | q
          · exact q
          · rcases Nat.eq_or_lt_of_le q with q | q
            · rw [← q] at u2
              omega
            · have := ph_mono j3 q
              omega
        exact absurd ⟨u1, by rw [u2]; exact z⟩ (j5 (ul a g) (by omega) hlt))
    rw [e1, if_pos (ph_lt j3), ul_ph hb j3, j6]
  · have e1 : fo a w = sF a := fst_none (fun g hg => by
      cases z : isF a w g with
      | false => rfl
      | true =>
        obtain ⟨u1, u2, u3, -⟩ := ul_ok hb hg
        exact absurd ⟨u1, by rw [u2]; exact z⟩ (j1 (ul a g) (by omega) u3))
    rw [e1, if_neg (Nat.lt_irrefl _), j2]
end OO
