/-! ===== dropName and dropEnding ===== -/
def rmv (ci base wide w : Nat) (a : kA) : kA := fun j => if j = ci then a ci - 1 else if base + wide * w ≤ j ∧ j < base + wide * (a ci - 1) then a (j + wide) else a j
section DD1
variable {C M : kS} {a : kA} {N t h ci base wide mw ml k : Nat} {c : Nat → Nat} {p : Nat → Nat} {bs : Nat → kA}
theorem J_name (hR : RD C M a) (hH : HsC C M h p bs) (hT : TxC C M t c) (hN : 3000 ≤ N) : ∃ r C' M', f_X8_name N C = some (r, C') ∧ f_X9_name N M = some (r, M') ∧ Rl C' M' := by
  have hw := hR.1
  obtain ⟨r, C', M', e1, e2, e3⟩ := J_make (N := N) (ci := 1) (base := 554) (wide := 9) (mw := 8) (ml := 8) (k := 10) hR hH hT (fun D hS => hS.2.1) hw.2.2.2.2.2.2.2.2.2.2.1 hw.2.1 rfl (by decide) (by decide) (by decide) (by decide) (by decide) rfl rfl (by decide) (fun D D' a' hS x g1 g2 g3 => chgN hw hS x g1 g2 (fun j h1 h2 => g3 j h1 (by omega))) hN
  refine ⟨r, C', M', ?_, ?_, e3⟩
  · unfold f_X8_name
    rw [e1, ob]
  · unfold f_X9_name
    rw [i_1, show (554 : Int32) = nI 554 by decide, show (9 : Int32) = nI 9 by decide, show (8 : Int32) = nI 8 by decide, e2, ob]
theorem J_ending (hR : RD C M a) (hH : HsC C M h p bs) (hT : TxC C M t c) (hN : 3000 ≤ N) : ∃ r C' M', f_X8_ending N C = some (r, C') ∧ f_X9_ending N M = some (r, M') ∧ Rl C' M' := by
  have hw := hR.1
  obtain ⟨r, C', M', e1, e2, e3⟩ := J_make (N := N) (ci := 2) (base := 626) (wide := 4) (mw := 4) (ml := 3) (k := 15) hR hH hT (fun D hS => hS.2.2.1) hw.2.2.2.2.2.2.2.2.2.2.2 hw.2.2.1 rfl (by decide) (by decide) (by decide) (by decide) (by decide) rfl rfl (by decide) (fun D D' a' hS x g1 g2 g3 => chgE hw hS x g1 g2 (fun j h1 h2 => g3 j h1 (by omega))) hN
  refine ⟨r, C', M', ?_, ?_, e3⟩
  · unfold f_X8_ending
    rw [e1, ob]
  · unfold f_X9_ending
    rw [show (2 : Int32) = nI 2 by decide, show (626 : Int32) = nI 626 by decide, show (4 : Int32) = nI 4 by decide, e2, ob]
theorem x_rowShift {T : Nat → Int32} {D0 : kS} {v n : Nat} (hml : D0 k 1 = nI ml) (l2 : ln (k + 2) = mw * ml) (hm : mw ≤ 40) (hm2 : ml ≤ 12) (hv : v + 1 < mw) (hT : ∀ q, v * ml ≤ q → D0 (k + 2) q = T q) (kont : kS → Option kS) (hN : 3000 ≤ N) : ∃ D', lp_X7_remove_38 N k (nI v) kont N (nI 0) D0 = kont D' ∧ (∀ j, j ≠ k + 2 → D' j = D0 j) ∧ ∀ q, D' (k + 2) q = if v * ml ≤ q ∧ q < v * ml + ml then T (q + ml) else D0 (k + 2) q := by
  have h6 := Nat.mul_le_mul hm hm2
  have h7 : ∀ i, i < ml → (v + 1) * ml + i < mw * ml := fun i hi => row_lt hv hi
  obtain ⟨D, m, ⟨b0, b1⟩, e⟩ := lpN (fun n i (x : kS) => lp_X7_remove_38 N k (nI v) kont n (nI i) x) (fun i x => (∀ j, j ≠ k + 2 → x j = D0 j) ∧ ∀ q, x (k + 2) q = if v * ml ≤ q ∧ q < v * ml + i then T (q + ml) else D0 (k + 2) q) ml (fun n i x hi hI => by
    obtain ⟨c0, c1⟩ := hI
    have h8 := h7 i hi
    have h9 : (v + 1) * ml = v * ml + ml := Nat.succ_mul v ml
    have hmlx : x k 1 = nI ml := by rw [c0 k (by omega)]; exact hml
    refine ⟨up1 x (k + 2) (upd (x (k + 2)) (v * ml + i) (T (v * ml + i + ml))), ⟨fun j hj => by rw [up1_n hj]; exact c0 j hj, fun q => ?_⟩, ?_⟩
    · rw [up1_s]
      by_cases z : q = v * ml + i
      · subst z
        rw [pk_us, if_pos (by omega)]
      · rw [pk_un z, c1 q]
        by_cases z2 : v * ml ≤ q ∧ q < v * ml + i
        · rw [if_pos z2, if_pos (by omega)]
        · rw [if_neg z2, if_neg (by omega)]
    · show lp_X7_remove_38 N k (nI v) kont (n + 1) (nI i) x = lp_X7_remove_38 N k (nI v) kont n (nI (i + 1)) _
      have e1 : f_X7_letterOf N x k (nI (v + 1)) (nI i) = some (T (v * ml + i + ml)) := by
        unfold f_X7_letterOf
        rw [hmlx, pk_mul, nI_add, x_at (k := k + 1) l2 h8 (by omega), ob]
        show some (x (k + 2) ((v + 1) * ml + i)) = _
        rw [c1, if_neg (by omega), hT _ (by omega), h9, show v * ml + ml + i = v * ml + i + ml by omega]
      rw [lp_X7_remove_38, i_1, hmlx]
      simp (disch := omega) only [q_le, Nat.not_le.mpr hi, ↓reduceIte, nI_add, e1, ob, pk_mul]
      rw [x_put (k := k + 1) l2 (by omega) (by omega), ob]) (N := N) 0 D0 (Nat.zero_le _) (by omega) ⟨fun j _ => rfl, fun q => by rw [if_neg (by omega)]⟩
  refine ⟨D, e.trans ?_, b0, b1⟩
  show lp_X7_remove_38 N k (nI v) kont (m + 1) (nI ml) D = _
  rw [lp_X7_remove_38, b0 k (by omega), hml]
  simp (disch := omega) only [q_le, Nat.le_refl, ↓reduceIte]
theorem x_remove {w : Nat} (hW : WdC C k mw ml a (a ci) base wide) (hle : ∀ w, w < a ci → a (base + wide * w) ≤ ml) (hn : a ci ≤ mw) (hwn : w < a ci) (hci : ci < base) (hwd : wide = ml + 1) (hm : mw ≤ 40) (hm2 : ml ≤ 12) (l2 : ln (k + 2) = mw * ml) (l4 : ln (k + 4) = mw) (hN : 3000 ≤ N) : ∃ C', f_X7_remove N C k (nI w) = some C' ∧ WdC C' k mw ml (rmv ci base wide w a) ((rmv ci base wide w a) ci) base wide ∧ ∀ j, j ≠ k → j ≠ k + 2 → j ≠ k + 4 → C' j = C j := by
  have h6 := Nat.mul_le_mul hm hm2
  obtain ⟨w0, w1, w2, w3⟩ := hW
  unfold f_X7_remove
  rw [x_hasN w2 (by omega) (by omega), ob, if_pos hwn, i_0, if_neg (by rw [q_nT]; exact not_false)]
  simp only [jn_eq]
  obtain ⟨D, m, ⟨b0, b1, b2⟩, e⟩ := lpN (fun n i (x : kS) => lp_X7_remove_11 N k (fun C4 => some (up1 C4 k (upd (C4 k) 4 (C4 k 4 - 1)))) n (nI (w + i)) x) (fun i x => (∀ j, j ≠ k + 2 → j ≠ k + 4 → x j = C j) ∧ (∀ v, x (k + 4) v = if w ≤ v ∧ v < w + i then C (k + 4) (v + 1) else C (k + 4) v) ∧ ∀ q, x (k + 2) q = if w * ml ≤ q ∧ q < (w + i) * ml then C (k + 2) (q + ml) else C (k + 2) q) (a ci - 1 - w) (fun n i x hi hI => by
    obtain ⟨c0, c1, c2⟩ := hI
    have hk4 : x k 4 = nI (a ci) := by rw [c0 k (by omega) (by omega)]; exact w2
    have hk1 : x k 1 = nI ml := by rw [c0 k (by omega) (by omega)]; exact w1
    have hx4 : x (k + 4) (w + i + 1) = C (k + 4) (w + i + 1) := by rw [c1, if_neg (by omega)]
    have hD0 : (up1 x (k + 4) (upd (x (k + 4)) (w + i) (C (k + 4) (w + i + 1)))) k 1 = nI ml := by rw [up1_n (by omega)]; exact hk1
    obtain ⟨D', e1, d0, d1⟩ := x_rowShift (N := N) (n := n) (T := C (k + 2)) (v := w + i) hD0 l2 hm hm2 (by omega) (fun q hq => by rw [up1_n (by omega), c2 q, if_neg (by omega)]) (fun C14 => lp_X7_remove_11 N k (fun C4 => some (up1 C4 k (upd (C4 k) 4 (C4 k 4 - 1)))) n (nI (w + i + 1)) C14) hN
    have hsm : (w + (i + 1)) * ml = (w + i) * ml + ml := by rw [← Nat.add_assoc, Nat.succ_mul]
    refine ⟨D', ⟨fun j j2 j4 => by rw [d0 j j2, up1_n j4]; exact c0 j j2 j4, fun v => ?_, fun q => ?_⟩, ?_⟩
    · rw [d0 (k + 4) (by omega), up1_s]
      by_cases z : v = w + i
      · subst z
        rw [pk_us, if_pos (by omega)]
      · rw [pk_un z, c1 v]
        by_cases z2 : w ≤ v ∧ v < w + i
        · rw [if_pos z2, if_pos (by omega)]
        · rw [if_neg z2, if_neg (by omega)]
    · rw [d1 q, hsm, up1_n (show k + 2 ≠ k + 4 by omega), c2 q]
      have hmono := Nat.mul_le_mul_right ml (show w ≤ w + i by omega)
      by_cases z : (w + i) * ml ≤ q ∧ q < (w + i) * ml + ml
      · rw [if_pos z, if_pos (by omega)]
      · rw [if_neg z]
        by_cases z2 : w * ml ≤ q ∧ q < (w + i) * ml
        · rw [if_pos z2, if_pos (by omega)]
        · rw [if_neg z2, if_neg (by omega)]
    · show lp_X7_remove_11 N k _ (n + 1) (nI (w + i)) x = lp_X7_remove_11 N k _ n (nI (w + (i + 1))) D'
      rw [lp_X7_remove_11]
      unfold f_X7_lengthOf
      simp (disch := omega) only [hk4, i_1, q_sub, q_le, if_neg, nI_add]
      rw [x_at (k := k + 3) l4 (i := w + i + 1) (by omega) (by omega)]
      simp only [ob]
      have e8 : x (k + 3 + 1) (w + i + 1) = C (k + 4) (w + i + 1) := hx4
      rw [e8, x_put (k := k + 3) l4 (by omega) (by omega), ob, jn_eq, i_0]
      exact e1) (N := N) 0 C (Nat.zero_le _) (by omega) ⟨fun j _ _ => rfl, fun v => by rw [if_neg (by omega)], fun q => by rw [show w + 0 = w from rfl, if_neg (by omega)]⟩
  have hk4 : D k 4 = nI (a ci) := by rw [b0 k (by omega) (by omega)]; exact w2
  have hlast : w + (a ci - 1 - w) = a ci - 1 := by omega
  refine ⟨up1 D k (upd (D k) 4 (nI (a ci - 1))), ?_, ⟨?_, ?_, ?_, fun v hv => ?_⟩, fun j j0 j2 j4 => by rw [up1_n j0]; exact b0 j j2 j4⟩
  · refine Eq.trans ?_ (e.trans ?_)
    · rfl
    · show lp_X7_remove_11 N k _ (m + 1) (nI (w + (a ci - 1 - w))) D = _
      rw [lp_X7_remove_11, hlast]
      simp (disch := omega) only [hk4, i_1, q_sub, q_le, Nat.le_refl, ↓reduceIte]
  · rw [up1_s, pk_un (by decide), b0 k (by omega) (by omega)]; exact w0
  · rw [up1_s, pk_un (by decide), b0 k (by omega) (by omega)]; exact w1
  · rw [up1_s, pk_us]
    unfold rmv
    rw [if_pos rfl]
  · have hci2 : rmv ci base wide w a ci = a ci - 1 := by unfold rmv; rw [if_pos rfl]
    rw [hci2] at hv
    have hm3 := wm (wide := wide) (show v < a ci - 1 from hv)
    have hm5 := Nat.mul_le_mul_right ml (show v + 1 ≤ a ci - 1 from hv)
    rw [Nat.succ_mul] at hm5
    rw [up1_n (show k + 4 ≠ k by omega), up1_n (show k + 2 ≠ k by omega), b1 v, hlast]
    by_cases z : v < w
    · have hm4 := wm (wide := wide) z
      have hm6 := Nat.mul_le_mul_right ml (show v + 1 ≤ w from z)
      rw [Nat.succ_mul] at hm6
      have hlv := hle v (by omega)
      have r1 : rmv ci base wide w a (base + wide * v) = a (base + wide * v) := by
        unfold rmv
        rw [if_neg (by omega), if_neg (by omega)]
      rw [if_neg (by omega), r1]
      refine ⟨(w3 v (by omega)).1, fun i hi => ?_⟩
      have r2 : rmv ci base wide w a (base + wide * v + 1 + i) = a (base + wide * v + 1 + i) := by
        unfold rmv
        rw [if_neg (by omega), if_neg (by omega)]
      rw [b2, if_neg (by omega), r2]
      exact (w3 v (by omega)).2 i hi
    · have hm4 := Nat.mul_le_mul_left wide (show w ≤ v by omega)
      have hm6 := Nat.mul_le_mul_right ml (show w ≤ v by omega)
      have hlv := hle (v + 1) (by omega)
      have hs1 : wide * (v + 1) = wide * v + wide := Nat.mul_succ wide v
      have hs2 : (v + 1) * ml = v * ml + ml := Nat.succ_mul v ml
      have r1 : rmv ci base wide w a (base + wide * v) = a (base + wide * (v + 1)) := by
        unfold rmv
        rw [if_neg (by omega), if_pos (by omega), hs1, Nat.add_assoc]
      rw [if_pos (by omega), r1]
      refine ⟨(w3 (v + 1) (by omega)).1, fun i hi => ?_⟩
      have r2 : rmv ci base wide w a (base + wide * v + 1 + i) = a (base + wide * (v + 1) + 1 + i) := by
        unfold rmv
        rw [if_neg (by omega), if_pos (by omega), hs1, show base + wide * v + 1 + i + wide = base + (wide * v + wide) + 1 + i by omega]
      rw [b2, hlast, if_pos (by omega), r2, show v * ml + i + ml = (v + 1) * ml + i by omega]
      exact (w3 (v + 1) (by omega)).2 i hi
theorem rmv_inv {w : Nat} (hwl : WL a base wide ml (a ci)) (hwn : w < a ci) (hci : ci < base) (hwd : wide = ml + 1) : WL (rmv ci base wide w a) base wide ml (a ci - 1) := fun v hv => by
  have hm3 := wm (wide := wide) hv
  by_cases z : v < w
  · have hm4 := wm (wide := wide) z
    obtain ⟨b1, b2⟩ := hwl v (by omega)
    have r1 : rmv ci base wide w a (base + wide * v) = a (base + wide * v) := by
      unfold rmv
      rw [if_neg (by omega), if_neg (by omega)]
    rw [r1]
    refine ⟨b1, fun i hi => ?_⟩
    have r2 : rmv ci base wide w a (base + wide * v + 1 + i) = a (base + wide * v + 1 + i) := by
      unfold rmv
      rw [if_neg (by omega), if_neg (by omega)]
    rw [r2]
    exact b2 i hi
  · have hm4 := Nat.mul_le_mul_left wide (show w ≤ v by omega)
    obtain ⟨b1, b2⟩ := hwl (v + 1) (by omega)
    have hs1 : wide * (v + 1) = wide * v + wide := Nat.mul_succ wide v
    have r1 : rmv ci base wide w a (base + wide * v) = a (base + wide * (v + 1)) := by
      unfold rmv
      rw [if_neg (by omega), if_pos (by omega), hs1, Nat.add_assoc]
    rw [r1]
    refine ⟨b1, fun i hi => ?_⟩
    have r2 : rmv ci base wide w a (base + wide * v + 1 + i) = a (base + wide * (v + 1) + 1 + i) := by
      unfold rmv
      rw [if_neg (by omega), if_pos (by omega), hs1, show base + wide * v + 1 + i + wide = base + (wide * v + wide) + 1 + i by omega]
    rw [r2]
    exact b2 i hi
theorem m_shiftL {w : Nat} (hn : M 1 ci = nI (a ci - 1)) (hwn : w < a ci) (hci : ci < base) (hfit : base + wide * a ci ≤ 642) (hwp : 0 < wide) (kont : kS → Option (Int32 × kS)) (hN : 3000 ≤ N) : ∃ M', lp_X9_drops_41 N (nI ci) (nI base) (nI wide) kont N (nI (base + wide * w)) M = kont M' ∧ (∀ j, j ≠ 1 → M' j = M j) ∧ ∀ q, M' 1 q = if base + wide * w ≤ q ∧ q < base + wide * (a ci - 1) then M 1 (q + wide) else M 1 q := by
  have hsp : wide * (a ci - 1) = wide * w + wide * (a ci - 1 - w) := by rw [← Nat.mul_add, show w + (a ci - 1 - w) = a ci - 1 by omega]
  have hsp2 : wide * a ci = wide * (a ci - 1) + wide := by rw [← Nat.mul_succ, show (a ci - 1).succ = a ci by omega]
  obtain ⟨D, m, ⟨b0, b1⟩, e⟩ := lpN (fun n i (x : kS) => lp_X9_drops_41 N (nI ci) (nI base) (nI wide) kont n (nI (base + wide * w + i)) x) (fun i x => (∀ j, j ≠ 1 → x j = M j) ∧ ∀ q, x 1 q = if base + wide * w ≤ q ∧ q < base + wide * w + i then M 1 (q + wide) else M 1 q) (wide * (a ci - 1 - w)) (fun n i x hi hI => by
    obtain ⟨c0, c1⟩ := hI
    have e1 : x 1 ci = nI (a ci - 1) := by rw [c1, if_neg (by omega)]; exact hn
    refine ⟨up1 x 1 (upd (x 1) (base + wide * w + i) (M 1 (base + wide * w + i + wide))), ⟨fun j hj => by rw [up1_n hj]; exact c0 j hj, fun q => ?_⟩, ?_⟩
    · rw [up1_s]
      by_cases z : q = base + wide * w + i
      · subst z
        rw [pk_us, if_pos (by omega)]
      · rw [pk_un z, c1 q]
        by_cases z2 : base + wide * w ≤ q ∧ q < base + wide * w + i
        · rw [if_pos z2, if_pos (by omega)]
        · rw [if_neg z2, if_neg (by omega)]
    · show lp_X9_drops_41 N (nI ci) (nI base) (nI wide) kont (n + 1) (nI (base + wide * w + i)) x = lp_X9_drops_41 N (nI ci) (nI base) (nI wide) kont n (nI (base + wide * w + i + 1)) _
      have e2 : x 1 (base + wide * w + i + wide) = M 1 (base + wide * w + i + wide) := by rw [c1, if_neg (by omega)]
      rw [lp_X9_drops_41]
      simp (disch := omega) only [q_gIn, q_cl, e1, pk_mul, nI_add, q_le, if_neg, e2, ↓jn_eq, i_1]) (N := N) 0 M (Nat.zero_le _) (by omega) ⟨fun j _ => rfl, fun q => by rw [if_neg (by omega)]⟩
  refine ⟨D, ?_, b0, fun q => by rw [b1 q, hsp, ← Nat.add_assoc]⟩
  refine e.trans ?_
  show lp_X9_drops_41 N (nI ci) (nI base) (nI wide) kont (m + 1) (nI (base + wide * w + wide * (a ci - 1 - w))) D = _
  have e1 : D 1 ci = nI (a ci - 1) := by rw [b1, if_neg (by omega)]; exact hn
  have e2 : base + wide * (a ci - 1) ≤ base + wide * w + wide * (a ci - 1 - w) := by omega
  rw [lp_X9_drops_41]
  simp (disch := omega) only [q_gIn, q_cl, e1, pk_mul, nI_add, q_le, e2, ↓reduceIte]
theorem J_drop (hR : RD C M a) (hH : HsC C M h p bs) (hT : TxC C M t c) (v : Int32) (hW : ∀ D : kS, StC D 4 a → WdC D k mw ml a (a ci) base wide) (hwl : WL a base wide ml (a ci)) (hn : a ci ≤ mw) (hwd : wide = ml + 1) (hmw : mw ≤ 40) (hml : ml ≤ 12) (hci : ci < base) (hci3 : ci < 34) (hb : base + wide * mw ≤ 642) (l2 : ln (k + 2) = mw * ml) (l4 : ln (k + 4) = mw) (hk : 5 ≤ k ∧ k + 4 < 24) (hchg : ∀ (D D' : kS) (a' : kA), StC D 4 a → (∀ j, j ≠ k → j ≠ k + 2 → j ≠ k + 4 → D' j = D j) → WdC D' k mw ml a' (a' ci) base wide → a' ci ≤ mw ∧ WL a' base wide ml (a' ci) → (∀ j, j ≠ ci → (j < base ∨ base + wide * mw ≤ j) → a' j = a j) → WF a' ∧ StC D' 4 a') (hN : 3000 ≤ N) : ∃ r C' M', f_X8_dropFrom N C k v = some (r, C') ∧ f_X9_drops N M (nI ci) (nI base) (nI wide) v = some (r, M') ∧ Rl C' M' := by
  have hR0 := hR
  obtain ⟨hw, hM, hS, hD⟩ := hR
  have hWC := hW C hS
  unfold f_X8_dropFrom f_X9_drops
  rcases sg v with hv | ⟨w, hwk, rfl⟩
  · refine ⟨-11, C, M, ?_, ?_, a, h, p, bs, t, c, hR0, hH, hT⟩
    · rw [x_hasG hv, ob, i_0, if_pos rfl]
    · rw [if_pos hv]
  · rw [x_hasN hWC.2.2.1 (by omega) hwk, ob, if_neg (nI_pos hwk)]
    simp (disch := omega) only [q_gIn, q_cl, hM _, q_lt]
    by_cases hwn : w < a ci
    · have hm3 := wm (wide := wide) (show w < mw by omega)
      have hfit : base + wide * a ci ≤ 642 := by
        have := Nat.mul_le_mul_left wide hn
        omega
      obtain ⟨C2, M2, h', p', bs', e2, e3, hH2, kc, km⟩ := J_keep (N := N) hH hw hM hS hN
      have hS2 : StC C2 4 a := hS.cg (fun j _ _ => kc j (by omega))
      have hM2 : SM M2 a := fun i hi => by rw [km.1 1 (by decide) (by decide)]; exact hM i hi
      have hT2 : TxC C2 M2 t c := (hT.cgM (km.1 3 (by decide) (by decide)) (km.2 4 (by decide))).cgC (by rw [kc 1 (by decide)]) (kc 3 (by decide))
      obtain ⟨C4, e4, hW4, x4⟩ := x_remove (N := N) (w := w) (hW C2 hS2) (fun w hwd => (hwl w hwd).1.2) hn hwn hci hwd hmw hml l2 l4 hN
      have hci2 : rmv ci base wide w a ci = a ci - 1 := by unfold rmv; rw [if_pos rfl]
      obtain ⟨hw4, hS4⟩ := hchg C2 C4 (rmv ci base wide w a) hS2 x4 hW4 ⟨by rw [hci2]; omega, by rw [hci2]; exact rmv_inv hwl hwn hci hwd⟩ (fun j h1 h2 => by
        have h5 := Nat.mul_le_mul_left wide (show a ci - 1 ≤ mw by omega)
        unfold rmv
        rw [if_neg h1, if_neg (by omega)])
      have y0 : (up1 M2 1 (upd (M2 1) ci (nI (a ci - 1)))) 1 ci = nI (a ci - 1) := by rw [up1_s, pk_us]
      obtain ⟨M5, e5, y5, y6⟩ := m_shiftL (N := N) (base := base) (wide := wide) (w := w) y0 hwn hci hfit (by omega) (fun C9 => gIn (nI ci) 642 (some (C9 1 ci, C9))) hN
      have hM6 : SM M5 (rmv ci base wide w a) := fun i hi => by
        have hsp2 : wide * a ci = wide * (a ci - 1) + wide := by rw [← Nat.mul_succ, show (a ci - 1).succ = a ci by omega]
        rw [y6 i]
        unfold rmv
        by_cases z1 : i = ci
        · subst z1
          rw [if_neg (by omega), if_pos rfl]
          exact y0
        · rw [if_neg z1]
          by_cases z2 : base + wide * w ≤ i ∧ i < base + wide * (a ci - 1)
          · rw [if_pos z2, if_pos z2, up1_s, pk_un (by omega)]
            exact hM2 _ (by omega)
          · rw [if_neg z2, if_neg z2, up1_s, pk_un z1]
            exact hM2 i hi
      have hH4 : HsC C4 M5 h' p' bs' := hH2.cg (fun j j1 j2 => by rw [x4 j (by omega) (by omega) (by omega)]) (by rw [y5 2 (by decide), up1_n (by decide)]) (by rw [y5 0 (by decide), up1_n (by decide)])
      have hT4 : TxC C4 M5 t c := (hT2.cgM (by rw [y5 3 (by decide), up1_n (by decide)]) (by rw [y5 0 (by decide), up1_n (by decide)])).cgC (by rw [x4 1 (by omega) (by omega) (by omega)]) (x4 3 (by omega) (by omega) (by omega))
      obtain ⟨C5, e6, x5, hR5⟩ := J_fin (N := N) hw4 hM6 hS4 hH4 hT4 hN
      refine ⟨nI (a ci - 1), C5, M5, ?_, ?_, hR5⟩
      · rw [if_pos hwn, i_0, if_neg (by rw [q_nT]; exact not_false), e2, ob, e4, ob, e6, ob]
        unfold f_X7_size
        rw [x5 k (by omega), hW4.2.2.1, ob, hci2]
      · rw [if_pos hwn, e3, ob]
        have e8 : M2 1 ci = nI (a ci) := hM2 ci (by omega)
        have e9 : M5 1 ci = nI (a ci - 1) := by have := hM6 ci (by omega); rw [hci2] at this; exact this
        simp (disch := omega) only [q_gIn, q_cl, e8, i_1, q_sub, pk_mul, nI_add, jn_eq]
        simp (disch := omega) only [q_gIn] at e5
        rw [e5, e9]
    · refine ⟨-11, C, M, ?_, ?_, a, h, p, bs, t, c, hR0, hH, hT⟩
      · rw [if_neg hwn, i_0, if_pos rfl]
      · rw [if_neg hwn]
theorem J_dropName (hR : RD C M a) (hH : HsC C M h p bs) (hT : TxC C M t c) (v : Int32) (hN : 3000 ≤ N) : ∃ r C' M', f_X8_dropName N C v = some (r, C') ∧ f_X9_dropName N M v = some (r, M') ∧ Rl C' M' := by
  have hw := hR.1
  obtain ⟨r, C', M', e1, e2, e3⟩ := J_drop (N := N) (ci := 1) (base := 554) (wide := 9) (mw := 8) (ml := 8) (k := 10) hR hH hT v (fun D hS => hS.2.1) hw.2.2.2.2.2.2.2.2.2.2.1 hw.2.1 rfl (by decide) (by decide) (by decide) (by decide) (by decide) rfl rfl (by decide) (fun D D' a' hS x g1 g2 g3 => chgN hw hS x g1 g2 (fun j h1 h2 => g3 j h1 (by omega))) hN
  refine ⟨r, C', M', ?_, ?_, e3⟩
  · unfold f_X8_dropName
    rw [e1, ob]
  · unfold f_X9_dropName
    rw [i_1, show (554 : Int32) = nI 554 by decide, show (9 : Int32) = nI 9 by decide, e2, ob]
theorem J_dropEnding (hR : RD C M a) (hH : HsC C M h p bs) (hT : TxC C M t c) (v : Int32) (hN : 3000 ≤ N) : ∃ r C' M', f_X8_dropEnding N C v = some (r, C') ∧ f_X9_dropEnding N M v = some (r, M') ∧ Rl C' M' := by
  have hw := hR.1
  obtain ⟨r, C', M', e1, e2, e3⟩ := J_drop (N := N) (ci := 2) (base := 626) (wide := 4) (mw := 4) (ml := 3) (k := 15) hR hH hT v (fun D hS => hS.2.2.1) hw.2.2.2.2.2.2.2.2.2.2.2 hw.2.2.1 rfl (by decide) (by decide) (by decide) (by decide) (by decide) rfl rfl (by decide) (fun D D' a' hS x g1 g2 g3 => chgE hw hS x g1 g2 (fun j h1 h2 => g3 j h1 (by omega))) hN
  refine ⟨r, C', M', ?_, ?_, e3⟩
  · unfold f_X8_dropEnding
    rw [e1, ob]
  · unfold f_X9_dropEnding
    rw [show (2 : Int32) = nI 2 by decide, show (626 : Int32) = nI 626 by decide, show (4 : Int32) = nI 4 by decide, e2, ob]
end DD1
