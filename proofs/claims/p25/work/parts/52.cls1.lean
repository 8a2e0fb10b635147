/-! ===== the class's rows ===== -/
theorem x_at {N k i n : Nat} {C : kS} (hn : ln (k + 1) = n) (h : i < n) (h2 : n ≤ 100000) : f_X3_at N C k (nI i) = some (C (k + 1) i) := by
  unfold f_X3_at
  rw [hn]
  simp (disch := omega) only [↓jn_eq, q_neg, ↓reduceIte, q_le, Nat.not_le.mpr h, q_gIn, q_cl]
theorem x_atn {N k : Nat} {C : kS} {v : Int32} (h : v < 0) : f_X3_at N C k v = some (nI 0) := by
  unfold f_X3_at
  simp only [↓jn_eq]
  rw [if_pos h, i_0]
theorem x_put {N k i n : Nat} {C : kS} {v : Int32} (hn : ln (k + 1) = n) (h : i < n) (h2 : n ≤ 100000) : f_X3_put N C k (nI i) v = some (up1 C (k + 1) (upd (C (k + 1)) i v)) := by
  unfold f_X3_put
  rw [hn]
  simp (disch := omega) only [↓jn_eq, q_neg, ↓reduceIte, q_le, Nat.not_le.mpr h, q_gIn, q_cl]
/-- the words of a list, at a cell -/
def WdC (C : kS) (k mw ml : Nat) (a : kA) (n base wide : Nat) : Prop := C k 0 = nI mw ∧ C k 1 = nI ml ∧ C k 4 = nI n ∧ ∀ w, w < n → C (k + 4) w = nI (a (base + wide * w)) ∧ ∀ i, i < a (base + wide * w) → C (k + 2) (w * ml + i) = nI (97 + a (base + wide * w + 1 + i))
def LtC (C : kS) (k : Nat) (a : kA) : Prop := ∀ j, j < 26 → C k j = nI (a (8 + j))
def StC (C : kS) (q : Nat) (a : kA) : Prop := WdC C (q + 1) 40 12 a (a 0) 34 13 ∧ WdC C (q + 6) 8 8 a (a 1) 554 9 ∧ WdC C (q + 11) 4 3 a (a 2) 626 4 ∧ LtC C (q + 17) a ∧ ∀ j, j < 5 → C (q + 19) j = nI (a (3 + j))
theorem row_lt {w i mw ml : Nat} (h : w < mw) (h2 : i < ml) : w * ml + i < mw * ml := by
  have h3 := Nat.mul_le_mul_right ml (show w + 1 ≤ mw from h)
  rw [Nat.succ_mul] at h3
  omega
section XX1
variable {C : kS} {a : kA} {N k mw ml n base wide : Nat}
theorem x_lengthOf (hW : WdC C k mw ml a n base wide) (h4 : ln (k + 4) = mw) (hm : mw ≤ 40) (hn : n ≤ mw) {w : Nat} (hw : w < n) : f_X7_lengthOf N C k (nI w) = some (nI (a (base + wide * w))) := by
  unfold f_X7_lengthOf
  rw [x_at (k := k + 3) h4 (by omega) (by omega), ob, (hW.2.2.2 w hw).1]
theorem x_lengthN {v : Int32} (h : v < 0) : f_X7_lengthOf N C k v = some (nI 0) := by
  unfold f_X7_lengthOf
  rw [x_atn h, ob]
theorem x_letterOf (hW : WdC C k mw ml a n base wide) (h2 : ln (k + 2) = mw * ml) (hm : mw ≤ 40) (hm2 : ml ≤ 12) (hn : n ≤ mw) {w i : Nat} (hw : w < n) (hi : i < a (base + wide * w)) (hle : a (base + wide * w) ≤ ml) : f_X7_letterOf N C k (nI w) (nI i) = some (nI (97 + a (base + wide * w + 1 + i))) := by
  have h5 := row_lt (show w < mw by omega) (show i < ml by omega)
  have h6 := Nat.mul_le_mul hm hm2
  unfold f_X7_letterOf
  rw [hW.2.1, pk_mul, nI_add, x_at (k := k + 1) h2 h5 (by omega), ob, (hW.2.2.2 w hw).2 i hi]
theorem x_widthOf (hW : WdC C k mw ml a n base wide) (h2 : ln (k + 2) = mw * ml) (h4 : ln (k + 4) = mw) (hm : mw ≤ 40) (hm2 : ml ≤ 12) (hn : n ≤ mw) (hL : LtC C 21 a) (hlw : LW a) (hwl : WL a base wide ml n) {w : Nat} (hw : w < n) (hN : 3000 ≤ N) : f_X7_widthOf N C k (nI w) 20 = some (nI (wd a (base + wide * w))) := by
  obtain ⟨⟨l1, l2⟩, l3⟩ := hwl w hw
  have h6 := Nat.mul_le_mul hm hm2
  have h7 := Nat.mul_le_mul_right ml (show w + 1 ≤ mw by omega)
  rw [Nat.succ_mul] at h7
  unfold f_X7_widthOf
  rw [x_at (k := k + 3) h4 (by omega) (by omega), ob, (hW.2.2.2 w hw).1, hW.2.1, pk_mul]
  simp only [↓jn_eq]
  obtain ⟨m, e⟩ := lpF (fun m i (x : Int32) => lp_X7_widthOf_25 N C k (nI w) 20 (nI (a (base + wide * w))) (fun x3 => some x3) m x (nI (w * ml + i))) (fun i => nI (sW a (base + wide * w) i)) (a (base + wide * w)) (fun m i hi => by
    have l4 := l3 i hi
    have l5 := sW_le hlw l3 i (by omega)
    show lp_X7_widthOf_25 N C k (nI w) 20 (nI (a (base + wide * w))) _ (m + 1) (nI (sW a (base + wide * w) i)) (nI (w * ml + i)) = lp_X7_widthOf_25 N C k (nI w) 20 (nI (a (base + wide * w))) _ m (nI (sW a (base + wide * w) (i + 1))) (nI (w * ml + i + 1))
    rw [lp_X7_widthOf_25, hW.2.1, pk_mul, nI_add]
    simp (disch := omega) only [q_le, if_neg]
    rw [x_at (k := k + 1) h2 (by omega) (by omega), ob, (hW.2.2.2 w hw).2 i hi, i_97, q_sub (by omega), Nat.add_sub_cancel_left, x_at (k := 20) (n := 26) rfl l4 (by decide), ob, hL _ l4, i_1, nI_add, nI_add, sW]) (N := N) 0 (Nat.zero_le _) (by omega)
  refine Eq.trans ?_ (e.trans ?_)
  · rfl
  · show lp_X7_widthOf_25 N C k (nI w) 20 (nI (a (base + wide * w))) _ (m + 1) (nI (sW a (base + wide * w) (a (base + wide * w)))) (nI (w * ml + a (base + wide * w))) = _
    rw [lp_X7_widthOf_25, hW.2.1, pk_mul, nI_add]
    simp (disch := omega) only [q_le, Nat.le_refl, ↓reduceIte]
    rfl
theorem x_widthN (hW : WdC C k mw ml a n base wide) (hN : 3000 ≤ N) : f_X7_widthOf N C k (-nI 1) 20 = some (nI 0) := by
  obtain ⟨m, rfl⟩ : ∃ m, N = m + 1 := ⟨N - 1, by omega⟩
  unfold f_X7_widthOf
  rw [x_atn (by decide), ob]
  simp only [↓jn_eq]
  rw [lp_X7_widthOf_25, if_pos (by rw [show (nI 0 : Int32) = 0 from i_0.symm, Int32.add_zero]; exact Int32.le_refl _), i_0]
end XX1
