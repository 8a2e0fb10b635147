/-! ===== the class's lines ===== -/
def ShC (C : kS) (a : kA) (m st : Nat) : Prop := C 119 8 = nI (ly (sh a m st) (a 6) (a 7) (a 0)).1 ∧ (∀ w, w < a 0 → C 125 w = nI (sh a m st w) ∧ C 127 w = nI (lno (sh a m st) (a 6) (a 7) w) ∧ C 129 w = nI (plc (sh a m st) (a 6) (a 7) w)) ∧ ∀ l, l < (ly (sh a m st) (a 6) (a 7) (a 0)).1 → C 131 l = nI (fst (isL a m st l) (a 0)) ∧ fst (isL a m st l) (a 0) < a 0
theorem ly_mono {s : Nat → Nat} {gp lw v : Nat} : ∀ d, (ly s gp lw v).1 ≤ (ly s gp lw (v + d)).1
  | 0 => Nat.le_refl _
  | d + 1 => by
    have h1 := ly_mono (s := s) (gp := gp) (lw := lw) (v := v) d
    rw [← Nat.add_assoc, ly]
    split
    · simp; omega
    · exact h1
theorem lno_lt {s : Nat → Nat} {gp lw v w : Nat} (h : v < w) : lno s gp lw v < (ly s gp lw w).1 := by
  have h1 := ly_mono (s := s) (gp := gp) (lw := lw) (v := v + 1) (w - (v + 1))
  have h2 := ly_p (s := s) (gp := gp) (lw := lw) v
  rw [show v + 1 + (w - (v + 1)) = w by omega] at h1
  unfold lno
  omega
section XX5
variable {C : kS} {a : kA} {N : Nat}
theorem x_isHidden (hH : HdC C a) (hw : WF a) {w : Nat} (hwd : w < a 0) : f_X4_isHidden N C (nI w) = some (nI (if hid a w = true then 1 else 0)) := by
  have hle := sF_le hw
  have w0 := hw.1
  unfold f_X4_isHidden
  rw [x_at (k := 120) (n := 40) rfl (by omega) (by decide), ob, (hH w hwd).1]
  cases z : hid a w with
  | true =>
    obtain ⟨z1, z2⟩ := foV_t w z
    simp (disch := omega) only [z1, i_m1, q_m1n, ↓reduceIte, ↓jn_eq, i_1, q_and1]
  | false => simp (disch := omega) only [foV_f w z, i_m1, ↓reduceIte, ↓jn_eq, i_0, i_1, q_and0, Bool.false_eq_true]
theorem x_formOf (hH : HdC C a) (hw : WF a) {w : Nat} (hwd : w < a 0) : f_X4_formOf N C (nI w) = some (foV a w) := by
  have w0 := hw.1
  unfold f_X4_formOf
  rw [x_at (k := 120) (n := 40) rfl (by omega) (by decide), ob, (hH w hwd).1]
theorem x_ownWidth (hH : HdC C a) (hw : WF a) {w : Nat} (hwd : w < a 0) : f_X4_ownWidthOf N C (nI w) = some (nI (wd a (34 + 13 * w))) := by
  have w0 := hw.1
  unfold f_X4_ownWidthOf
  rw [x_at (k := 122) (n := 40) rfl (by omega) (by decide), ob, (hH w hwd).2]
theorem x_barW {k m st f : Nat} (hB : BrC C k a m st) (hk : k = 113 ∨ k = 116) (hw : WF a) (hf : f < sF a) : f_X0_widthOf N C k (nI f) = some (nI (bw a m st f)) := by
  have hle := sF_le hw
  have hln : ln (k + 1 + 1) = 40 := by
    rcases hk with h | h
    · subst h; rfl
    · subst h; rfl
  unfold f_X0_widthOf
  rw [x_at (k := k + 1) hln (by omega) (by decide), ob, hB f hf]
theorem x_widthUnder {k m st w : Nat} (hH : HdC C a) (hB : BrC C k a m st) (hk : k = 113 ∨ k = 116) (hw : WF a) (hwd : w < a 0) : f_X4_widthUnder N C k (nI w) = some (nI (sh a m st w)) := by
  unfold f_X4_widthUnder
  rw [x_isHidden hH hw hwd, ob]
  cases z : hid a w with
  | true =>
    obtain ⟨z1, z2⟩ := foV_t w z
    rw [x_formOf hH hw hwd]
    simp (disch := omega) only [↓reduceIte, ↓jn_eq, i_0, q_nT, ob, z1, x_barW hB hk hw z2, sh_t w z]
  | false =>
    rw [x_ownWidth hH hw hwd]
    simp (disch := omega) only [↓reduceIte, ↓jn_eq, i_0, ob, sh_f w z, Bool.false_eq_true]
theorem HdC.cg {C' : kS} (h : HdC C a) (h0 : C' 121 = C 121) (h1 : C' 123 = C 123) : HdC C' a := by
  unfold HdC
  rw [h0, h1]
  exact h
theorem BrC.cg {C' : kS} {k m st : Nat} (h : BrC C k a m st) (h0 : C' (k + 2) = C (k + 2)) : BrC C' k a m st := by
  unfold BrC
  rw [h0]
  exact h
theorem x_flow {m st : Nat} (hS : StC C 4 a) (hH : HdC C a) (hB : BrC C 113 a m st) (hw : WF a) (hst : 1 ≤ st ∧ st ≤ 50) (hN : 3000 ≤ N) : ∃ C', f_X4_flow N C 113 = some C' ∧ (∀ j, j ≠ 119 → j ≠ 125 → j ≠ 127 → j ≠ 129 → j ≠ 131 → C' j = C j) ∧ ShC C' a m st := by
  obtain ⟨w0, w1, w2, w3, w4, w5, w6, w7, wl, wp, wn, we⟩ := id hw
  have hle := sF_le hw
  have hly := ly_b (s := sh a m st) (gp := a 6) (lw := a 7) (n := a 0) (fun v hv => sh_le hw hst hv) (by omega) (by omega)
  have e3 : C 23 3 = nI (a 6) := hS.2.2.2.2 3 (by decide)
  have e4 : C 23 4 = nI (a 7) := hS.2.2.2.2 4 (by decide)
  unfold f_X4_flow
  rw [i_3, x_at (k := 22) (n := 5) rfl (by decide) (by decide), ob, e3, i_4, x_at (k := 22) (n := 5) rfl (by decide) (by decide), ob, e4]
  simp only [↓jn_eq, i_0]
  obtain ⟨⟨x, C1⟩, n, ⟨b0, b1, ⟨u, b2, b2a, b2b⟩, b3, b4⟩, e⟩ := lpN (fun n i (y : Int32 × kS) => lp_X4_flow_35 N 113 (nI (a 6)) (nI (a 7)) (fun C6 => some C6) n y.1 (nI i) y.2) (fun w y => (∀ j, j ≠ 119 → j ≠ 125 → j ≠ 127 → j ≠ 129 → j ≠ 131 → y.2 j = C j) ∧ y.2 119 8 = nI (ly (sh a m st) (a 6) (a 7) w).1 ∧ (∃ u, y.1 = nI u ∧ (w = 0 → u = 0) ∧ (¬ w = 0 → u + a 6 = (ly (sh a m st) (a 6) (a 7) w).2)) ∧ (∀ v, v < w → y.2 125 v = nI (sh a m st v) ∧ y.2 127 v = nI (lno (sh a m st) (a 6) (a 7) v) ∧ y.2 129 v = nI (plc (sh a m st) (a 6) (a 7) v)) ∧ ∀ l, l < (ly (sh a m st) (a 6) (a 7) w).1 → y.2 131 l = nI (fst (isL a m st l) w) ∧ fst (isL a m st l) w < w) (a 0) (fun n w y hwd hI => by
    obtain ⟨x, D⟩ := y
    obtain ⟨b0, b1, ⟨u, b2, b2a, b2b⟩, b3, b4⟩ := hI
    simp only at b0 b1 b2 b3 b4
    subst b2
    have hHx : HdC D a := hH.cg (b0 121 (by decide) (by decide) (by decide) (by decide) (by decide)) (b0 123 (by decide) (by decide) (by decide) (by decide) (by decide))
    have hBx : BrC D 113 a m st := hB.cg (b0 115 (by decide) (by decide) (by decide) (by decide) (by decide))
    have e1 : f_X7_size N D 5 = some (nI (a 0)) := by unfold f_X7_size; rw [b0 5 (by decide) (by decide) (by decide) (by decide) (by decide), hS.1.2.2.1]
    have s1 := sh_le hw (m := m) hst hwd
    have l1 := hly w (by omega)
    have l2 := hly (w + 1) (by omega)
    have hp0 := ly_p (s := sh a m st) (gp := a 6) (lw := a 7) w
    have hu : u ≤ 400 := by
      by_cases q : w = 0
      · have := b2a q; omega
      · have := b2b q; omega
    by_cases z : w = 0 ∨ a 7 < (ly (sh a m st) (a 6) (a 7) w).2 + sh a m st w
    · have d1 : ly (sh a m st) (a 6) (a 7) (w + 1) = ((ly (sh a m st) (a 6) (a 7) w).1 + 1, sh a m st w + a 6) := by rw [ly, if_pos z]
      have d2 : plc (sh a m st) (a 6) (a 7) w = 0 := by unfold plc; rw [if_pos z]
      have d3 : lno (sh a m st) (a 6) (a 7) w = (ly (sh a m st) (a 6) (a 7) w).1 := by unfold lno; rw [d1]; rfl
      rw [d1] at l2 hp0
      refine ⟨(nI (sh a m st w), up1 (up1 (up1 (up1 (up1 D 131 (upd (D 131) (ly (sh a m st) (a 6) (a 7) w).1 (nI w))) 119 (upd (D 119) 8 (nI ((ly (sh a m st) (a 6) (a 7) w).1 + 1)))) 125 (upd (D 125) w (nI (sh a m st w)))) 127 (upd (D 127) w (nI (ly (sh a m st) (a 6) (a 7) w).1))) 129 (upd (D 129) w (nI 0))), ⟨fun j h1 h2 h3 h4 h5 => ?_, ?_, ⟨sh a m st w, rfl, fun q => absurd q (Nat.succ_ne_zero w), fun _ => by rw [d1]⟩, fun v hv => ?_, fun l hl => ?_⟩, ?_⟩
      · simp only []
        rw [up1_n h4, up1_n h3, up1_n h2, up1_n h1, up1_n h5]
        exact b0 j h1 h2 h3 h4 h5
      · simp only []
        rw [up1_n (show (119 : Nat) ≠ 129 by decide), up1_n (show (119 : Nat) ≠ 127 by decide), up1_n (show (119 : Nat) ≠ 125 by decide), up1_s, pk_us, d1]
      · simp only []
        rw [up1_s, up1_n (show (125 : Nat) ≠ 129 by decide), up1_n (show (125 : Nat) ≠ 127 by decide), up1_s, up1_n (show (127 : Nat) ≠ 129 by decide), up1_s]
        by_cases y : v = w
        · subst y
          rw [pk_us, pk_us, pk_us, d2, d3]
          exact ⟨rfl, rfl, rfl⟩
        · rw [pk_un y, pk_un y, pk_un y]
          exact b3 v (by omega)
      · simp only []
        rw [up1_n (show (131 : Nat) ≠ 129 by decide), up1_n (show (131 : Nat) ≠ 127 by decide), up1_n (show (131 : Nat) ≠ 125 by decide), up1_n (show (131 : Nat) ≠ 119 by decide), up1_s]
        rw [d1] at hl
        simp only at hl
        by_cases y : l = (ly (sh a m st) (a 6) (a 7) w).1
        · have f1 : fst (isL a m st l) (w + 1) = w := fst_uniq (Nat.lt_succ_self w) (decide_eq_true (d3.trans y.symm)) (fun j hj => decide_eq_false (fun q => by
            have := lno_lt (s := sh a m st) (gp := a 6) (lw := a 7) hj
            omega))
          rw [f1, ← y, pk_us]
          exact ⟨rfl, Nat.lt_succ_self w⟩
        · rw [pk_un y]
          have b5 := b4 l (by omega)
          rw [fst, if_pos b5.2]
          exact ⟨b5.1, Nat.lt_succ_of_lt b5.2⟩
      · show lp_X4_flow_35 N 113 (nI (a 6)) (nI (a 7)) _ (n + 1) (nI u) (nI w) D = lp_X4_flow_35 N 113 (nI (a 6)) (nI (a 7)) _ n (nI (sh a m st w)) (nI (w + 1)) _
        rw [lp_X4_flow_35, e1, x_widthUnder hHx hBx (Or.inl rfl) hw hwd]
        simp only [ob, b1]
        rw [x_put (k := 130) (n := 40) rfl (i := (ly (sh a m st) (a 6) (a 7) w).1) (by omega) (by decide)]
        simp (disch := omega) only [q_le, Nat.not_le.mpr hwd, ↓reduceIte, ↓jn_eq, ob, i_0, i_1, nI_add, q_eq, Nat.reduceAdd, up1_s, up1_n (show (119 : Nat) ≠ 131 by decide), b1]
        have hT : ∀ T1 T2 : Option kS, (if (ly (sh a m st) (a 6) (a 7) w).1 = 0 then T1 else if u + a 6 + sh a m st w ≤ a 7 then T2 else T1) = T1 := fun T1 T2 => by
          by_cases q : (ly (sh a m st) (a 6) (a 7) w).1 = 0
          · rw [if_pos q]
          · rw [if_neg q]
            by_cases q2 : w = 0
            · exact absurd (by rw [q2]; rfl) q
            · have := b2b q2
              rw [if_neg (by omega)]
        rw [hT, x_put (k := 124) (n := 40) rfl (by omega) (by decide), ob]
        simp (disch := omega) only [Nat.reduceAdd, up1_s, up1_n (show (119 : Nat) ≠ 125 by decide), pk_us, q_sub, Nat.add_sub_cancel, up1_n (show (125 : Nat) ≠ 119 by decide), up1_n (show (125 : Nat) ≠ 131 by decide)]
        rw [x_put (k := 126) (n := 40) rfl (by omega) (by decide), ob, x_put (k := 128) (n := 40) rfl (by omega) (by decide), ob]
        simp (disch := decide) only [Nat.reduceAdd, up1_n, Nat.zero_add]
    · have d1 : ly (sh a m st) (a 6) (a 7) (w + 1) = ((ly (sh a m st) (a 6) (a 7) w).1, (ly (sh a m st) (a 6) (a 7) w).2 + (sh a m st w + a 6)) := by rw [ly, if_neg z]
      have d2 : plc (sh a m st) (a 6) (a 7) w = (ly (sh a m st) (a 6) (a 7) w).2 := by unfold plc; rw [if_neg z]
      have d3 : lno (sh a m st) (a 6) (a 7) w = (ly (sh a m st) (a 6) (a 7) w).1 - 1 := by unfold lno; rw [d1]
      rw [d1] at l2 hp0
      simp only at l2 hp0
      have hz : ¬ w = 0 := fun q => z (Or.inl q)
      have hu2 := b2b hz
      refine ⟨(nI ((ly (sh a m st) (a 6) (a 7) w).2 + sh a m st w), up1 (up1 (up1 D 125 (upd (D 125) w (nI (sh a m st w)))) 127 (upd (D 127) w (nI ((ly (sh a m st) (a 6) (a 7) w).1 - 1)))) 129 (upd (D 129) w (nI (ly (sh a m st) (a 6) (a 7) w).2))), ⟨fun j h1 h2 h3 h4 h5 => ?_, ?_, ⟨_, rfl, fun q => absurd q (Nat.succ_ne_zero w), fun _ => by rw [d1, Nat.add_assoc]⟩, fun v hv => ?_, fun l hl => ?_⟩, ?_⟩
      · simp only []
        rw [up1_n h4, up1_n h3, up1_n h2]
        exact b0 j h1 h2 h3 h4 h5
      · simp only []
        rw [up1_n (show (119 : Nat) ≠ 129 by decide), up1_n (show (119 : Nat) ≠ 127 by decide), up1_n (show (119 : Nat) ≠ 125 by decide), b1, d1]
      · simp only []
        rw [up1_s, up1_n (show (125 : Nat) ≠ 129 by decide), up1_n (show (125 : Nat) ≠ 127 by decide), up1_s, up1_n (show (127 : Nat) ≠ 129 by decide), up1_s]
        by_cases y : v = w
        · subst y
          rw [pk_us, pk_us, pk_us, d2, d3]
          exact ⟨rfl, rfl, rfl⟩
        · rw [pk_un y, pk_un y, pk_un y]
          exact b3 v (by omega)
      · simp only []
        rw [up1_n (show (131 : Nat) ≠ 129 by decide), up1_n (show (131 : Nat) ≠ 127 by decide), up1_n (show (131 : Nat) ≠ 125 by decide)]
        rw [d1] at hl
        have b5 := b4 l hl
        rw [fst, if_pos b5.2]
        exact ⟨b5.1, Nat.lt_succ_of_lt b5.2⟩
      · show lp_X4_flow_35 N 113 (nI (a 6)) (nI (a 7)) _ (n + 1) (nI u) (nI w) D = lp_X4_flow_35 N 113 (nI (a 6)) (nI (a 7)) _ n (nI ((ly (sh a m st) (a 6) (a 7) w).2 + sh a m st w)) (nI (w + 1)) _
        rw [lp_X4_flow_35, e1, x_widthUnder hHx hBx (Or.inl rfl) hw hwd]
        have y1 : ¬ (ly (sh a m st) (a 6) (a 7) w).1 = 0 := by omega
        have y2 : u + a 6 + sh a m st w ≤ a 7 := by omega
        simp (disch := omega) only [ob, b1, q_le, Nat.not_le.mpr hwd, ↓reduceIte, ↓jn_eq, i_0, i_1, nI_add, q_eq, y1, y2]
        rw [x_put (k := 124) (n := 40) rfl (by omega) (by decide), ob]
        simp (disch := omega) only [Nat.reduceAdd, up1_n (show (119 : Nat) ≠ 125 by decide), b1, q_sub]
        rw [x_put (k := 126) (n := 40) rfl (by omega) (by decide), ob, x_put (k := 128) (n := 40) rfl (by omega) (by decide), ob, hu2]
        simp (disch := decide) only [Nat.reduceAdd, up1_n]) (N := N) 0 (nI 0, up1 C 119 (upd (C 119) 8 (nI 0))) (Nat.zero_le _) (by omega) ⟨fun j h1 _ _ _ _ => up1_n h1, by show up1 C 119 (upd (C 119) 8 (nI 0)) 119 8 = _; rw [up1_s, pk_us]; rfl, ⟨0, rfl, fun _ => rfl, fun q => absurd rfl q⟩, fun v hv => absurd hv (Nat.not_lt_zero v), fun l hl => absurd hl (Nat.not_lt_zero l)⟩
  simp only at b0 b1 b2 b3 b4
  refine ⟨C1, ?_, b0, b1, b3, b4⟩
  refine e.trans ?_
  show lp_X4_flow_35 N 113 (nI (a 6)) (nI (a 7)) _ (n + 1) x (nI (a 0)) C1 = _
  have e1 : f_X7_size N C1 5 = some (nI (a 0)) := by unfold f_X7_size; rw [b0 5 (by decide) (by decide) (by decide) (by decide) (by decide), hS.1.2.2.1]
  rw [lp_X4_flow_35, e1]
  simp (disch := omega) only [ob, q_le, Nat.le_refl, ↓reduceIte]
end XX5
