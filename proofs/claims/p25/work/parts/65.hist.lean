/-! ===== copies of states ===== -/
section HH1
variable {C M : kS} {a : kA} {N : Nat}
theorem gIf_y {α : Type} {c : Prop} [Decidable c] {x : Option α} (h : c) : gIf c x = x := by
  unfold gIf
  rw [if_pos h]
theorem x_rowCopy {k k1 n : Nat} (h1 : ln (k + 1) = n) (h2 : ln (k1 + 1) = n) (hn : n ≤ 100000) : f_X3_copyFrom N C k k1 = some (up1 C (k + 1) (va_cpy (C (k1 + 1)) (C (k + 1)) 0 0 n)) := by
  unfold f_X3_copyFrom
  rw [h1, h2]
  have e : (if nI n < nI n then nI n else nI n) = nI n := ite_self _
  simp only [↓jn_eq]
  rw [e, gIf_y ⟨nI_pos (by omega), by rw [q_cl (by omega)]; exact Nat.le_refl _, by rw [q_cl (by omega)]; exact Nat.le_refl _⟩, q_cl (by omega)]
theorem cpy_in {f g : Nat → Int32} {n i : Nat} (h : i < n) : va_cpy f g 0 0 n i = f i := by
  unfold va_cpy
  rw [if_pos (by omega), Nat.zero_add, Nat.sub_zero]
theorem x_wdCopy {k p mw ml n base wide : Nat} (hW : WdC C p mw ml a n base wide) (k0 : C k 0 = nI mw) (k1 : C k 1 = nI ml) (hn : n ≤ mw) (hm : mw ≤ 40) (hm2 : ml ≤ 12) (hle : ∀ w, w < n → a (base + wide * w) ≤ ml) (l1 : ln (k + 2) = mw * ml) (l2 : ln (p + 2) = mw * ml) (l3 : ln (k + 4) = mw) (l4 : ln (p + 4) = mw) (hd : k + 4 < p ∨ p + 4 < k) : ∃ C', f_X7_copyFrom N C k p = some C' ∧ WdC C' k mw ml a n base wide ∧ ∀ j, j ≠ k → j ≠ k + 2 → j ≠ k + 4 → C' j = C j := by
  have h6 := Nat.mul_le_mul hm hm2
  obtain ⟨p0, p1, p2, p3⟩ := hW
  unfold f_X7_copyFrom
  rw [x_rowCopy (k := k + 1) (k1 := p + 1) l1 l2 (by omega), ob]
  have e1 : up1 C (k + 1 + 1) (va_cpy (C (p + 1 + 1)) (C (k + 1 + 1)) 0 0 (mw * ml)) = up1 C (k + 2) (va_cpy (C (p + 2)) (C (k + 2)) 0 0 (mw * ml)) := rfl
  rw [e1]
  generalize hC1 : up1 C (k + 2) (va_cpy (C (p + 2)) (C (k + 2)) 0 0 (mw * ml)) = C1
  have a1 : ∀ j, j ≠ k + 2 → C1 j = C j := fun j hj => by rw [← hC1, up1_n hj]
  have a2 : ∀ i, i < mw * ml → C1 (k + 2) i = C (p + 2) i := fun i hi => by rw [← hC1, up1_s, cpy_in hi]
  rw [x_rowCopy (k := k + 3) (k1 := p + 3) l3 l4 (by omega), ob]
  have e2 : up1 C1 (k + 3 + 1) (va_cpy (C1 (p + 3 + 1)) (C1 (k + 3 + 1)) 0 0 mw) = up1 C1 (k + 4) (va_cpy (C1 (p + 4)) (C1 (k + 4)) 0 0 mw) := rfl
  rw [e2]
  generalize hC2 : up1 C1 (k + 4) (va_cpy (C1 (p + 4)) (C1 (k + 4)) 0 0 mw) = C2
  have b1 : ∀ j, j ≠ k + 2 → j ≠ k + 4 → C2 j = C j := fun j h1 h2 => by rw [← hC2, up1_n h2, a1 j h1]
  have b2 : ∀ i, i < mw * ml → C2 (k + 2) i = C (p + 2) i := fun i hi => by rw [← hC2, up1_n (by omega), a2 i hi]
  have b3 : ∀ i, i < mw → C2 (k + 4) i = C (p + 4) i := fun i hi => by rw [← hC2, up1_s, cpy_in hi, a1 (p + 4) (by omega)]
  have c1 : C2 p 4 = nI n := by rw [b1 p (by omega) (by omega)]; exact p2
  have c2 : C2 k 0 = nI mw := by rw [b1 k (by omega) (by omega)]; exact k0
  have c3 : C2 k 1 = nI ml := by rw [b1 k (by omega) (by omega)]; exact k1
  rw [c1, c2]
  have e3 : (if nI n < nI mw then nI n else nI mw) = nI n := by
    by_cases z : n < mw
    · rw [if_pos ((nI_ltI (by omega) (by omega)).mpr z)]
    · rw [if_neg (fun q => z ((nI_ltI (by omega) (by omega)).mp q)), show mw = n by omega]
  rw [e3]
  simp only [↓jn_eq]
  refine ⟨_, rfl, ⟨?_, ?_, ?_, fun w hw => ⟨?_, fun i hi => ?_⟩⟩, fun j h1 h2 h3 => ?_⟩
  · rw [up1_s, pk_un (by decide)]; exact c2
  · rw [up1_s, pk_un (by decide)]; exact c3
  · rw [up1_s, pk_us]
  · rw [up1_n (by omega), b3 w (by omega)]; exact (p3 w hw).1
  · have h7 := row_lt (show w < mw by omega) (show i < ml by have := hle w hw; omega)
    rw [up1_n (by omega), b2 _ h7]; exact (p3 w hw).2 i hi
  · rw [up1_n h1, b1 j h2 h3]
def ShpC (C : kS) (q : Nat) : Prop := (C (q + 1) 0 = nI 40 ∧ C (q + 1) 1 = nI 12) ∧ (C (q + 6) 0 = nI 8 ∧ C (q + 6) 1 = nI 8) ∧ C (q + 11) 0 = nI 4 ∧ C (q + 11) 1 = nI 3
theorem StC.shp {q : Nat} (h : StC C q a) : ShpC C q := ⟨⟨h.1.1, h.1.2.1⟩, ⟨h.2.1.1, h.2.1.2.1⟩, h.2.2.1.1, h.2.2.1.2.1⟩
def Qs (q : Nat) : Prop := q = 4 ∨ q = 26 ∨ q = 46 ∨ q = 66 ∨ q = 86
theorem Qs.ln {q : Nat} (h : Qs q) : (ln (q + 3) = 480 ∧ ln (q + 5) = 40) ∧ (ln (q + 8) = 64 ∧ ln (q + 10) = 8) ∧ (ln (q + 13) = 12 ∧ ln (q + 15) = 4) ∧ ln (q + 17) = 26 ∧ ln (q + 19) = 5 ∧ kd q = 5 := by
  rcases h with h | h | h | h | h <;> subst h <;> decide +kernel
theorem Qs.ap {p q : Nat} (h : Qs p) (h2 : Qs q) (hne : p ≠ q) : p + 20 ≤ q ∨ q + 20 ≤ p := by
  unfold Qs at h h2
  omega
theorem WdC.cg {C' : kS} {k mw ml n base wide : Nat} (h : WdC C k mw ml a n base wide) (h0 : C' k = C k) (h2 : C' (k + 2) = C (k + 2)) (h4 : C' (k + 4) = C (k + 4)) : WdC C' k mw ml a n base wide := by
  unfold WdC
  rw [h0, h2, h4]
  exact h
theorem x_stCopy {p q : Nat} (hS : StC C p a) (hw : WF a) (hp : Qs p) (hq : Qs q) (hne : p ≠ q) (hsh : ShpC C q) : ∃ C', f_X5_copyFrom N C q p = some C' ∧ StC C' q a ∧ ∀ j, (j < q + 1 ∨ q + 20 ≤ j) → C' j = C j := by
  obtain ⟨w0, w1, w2, w3, w4, w5, w6, w7, wl, wp, wn, we⟩ := id hw
  obtain ⟨⟨a1, a2⟩, ⟨a3, a4⟩, ⟨a5, a6⟩, a7, a8, _⟩ := hq.ln
  obtain ⟨⟨b1, b2⟩, ⟨b3, b4⟩, ⟨b5, b6⟩, b7, b8, _⟩ := hp.ln
  have hap := hp.ap hq hne
  obtain ⟨⟨s1, s2⟩, ⟨s3, s4⟩, s5, s6⟩ := hsh
  obtain ⟨hP, hNm, hE, hL, hT⟩ := hS
  unfold f_X5_copyFrom
  obtain ⟨C1, e1, g1, x1⟩ := x_wdCopy (N := N) (k := q + 1) (p := p + 1) hP s1 s2 w0 (by decide) (by decide) (fun w hwd => (wp w hwd).1.2) a1 b1 a2 b2 (by omega)
  rw [e1, ob]
  obtain ⟨C2, e2, g2, x2⟩ := x_wdCopy (N := N) (C := C1) (k := q + 6) (p := p + 6) (hNm.cg (x1 _ (by omega) (by omega) (by omega)) (x1 _ (by omega) (by omega) (by omega)) (x1 _ (by omega) (by omega) (by omega))) (by rw [x1 _ (by omega) (by omega) (by omega)]; exact s3) (by rw [x1 _ (by omega) (by omega) (by omega)]; exact s4) w1 (by decide) (by decide) (fun w hwd => (wn w hwd).1.2) a3 b3 a4 b4 (by omega)
  rw [e2, ob]
  have y2 : ∀ j, (j < q + 1 ∨ q + 11 ≤ j) → C2 j = C j := fun j hj => by rw [x2 j (by omega) (by omega) (by omega), x1 j (by omega) (by omega) (by omega)]
  obtain ⟨C3, e3, g3, x3⟩ := x_wdCopy (N := N) (C := C2) (k := q + 11) (p := p + 11) (hE.cg (y2 _ (by omega)) (y2 _ (by omega)) (y2 _ (by omega))) (by rw [y2 _ (by omega)]; exact s5) (by rw [y2 _ (by omega)]; exact s6) w2 (by decide) (by decide) (fun w hwd => (we w hwd).1.2) a5 b5 a6 b6 (by omega)
  rw [e3, ob]
  have y3 : ∀ j, (j < q + 1 ∨ q + 16 ≤ j) → C3 j = C j := fun j hj => by rw [x3 j (by omega) (by omega) (by omega), y2 j (by omega)]
  rw [x_rowCopy (k := q + 16) (k1 := p + 16) a7 b7 (by decide), ob, x_rowCopy (k := q + 18) (k1 := p + 18) a8 b8 (by decide), ob]
  refine ⟨_, rfl, ⟨?_, ?_, ?_, fun j hj => ?_, fun j hj => ?_⟩, fun j hj => ?_⟩
  · refine g1.cg ?_ ?_ ?_
    · rw [up1_n (by omega), up1_n (by omega), x3 _ (by omega) (by omega) (by omega), x2 _ (by omega) (by omega) (by omega)]
    · rw [up1_n (by omega), up1_n (by omega), x3 _ (by omega) (by omega) (by omega), x2 _ (by omega) (by omega) (by omega)]
    · rw [up1_n (by omega), up1_n (by omega), x3 _ (by omega) (by omega) (by omega), x2 _ (by omega) (by omega) (by omega)]
  · refine g2.cg ?_ ?_ ?_
    · rw [up1_n (by omega), up1_n (by omega), x3 _ (by omega) (by omega) (by omega)]
    · rw [up1_n (by omega), up1_n (by omega), x3 _ (by omega) (by omega) (by omega)]
    · rw [up1_n (by omega), up1_n (by omega), x3 _ (by omega) (by omega) (by omega)]
  · refine g3.cg ?_ ?_ ?_
    · rw [up1_n (by omega), up1_n (by omega)]
    · rw [up1_n (by omega), up1_n (by omega)]
    · rw [up1_n (by omega), up1_n (by omega)]
  · rw [up1_n (show q + 17 ≠ q + 18 + 1 by omega)]
    show up1 C3 (q + 17) (va_cpy (C3 (p + 17)) (C3 (q + 17)) 0 0 26) (q + 17) j = _
    rw [up1_s, cpy_in hj, y3 _ (by omega)]
    exact hL j hj
  · show up1 _ (q + 19) (va_cpy (up1 C3 (q + 16 + 1) (va_cpy (C3 (p + 16 + 1)) (C3 (q + 16 + 1)) 0 0 26) (p + 19)) _ 0 0 5) (q + 19) j = _
    rw [up1_s, cpy_in hj, up1_n (by omega), y3 _ (by omega)]
    exact hT j hj
  · rw [up1_n (by omega), up1_n (by omega), y3 j (by omega)]
end HH1
