/-! ===== changes ===== -/
section CC1
variable {C M : kS} {a : kA} {N t h : Nat} {c : Nat → Nat} {p : Nat → Nat} {bs : Nat → kA}
theorem x_workOut (hS : StC C 4 a) (hw : WF a) (hN : 3000 ≤ N) : ∃ C', f_X8_workOut N C = some C' ∧ (∀ j, j < 106 → C' j = C j) ∧ DvC C' a := by
  have hst := hw.2.2.2.2.1
  have hm := hw.2.2.2.1
  obtain ⟨C1, e1, x1, hF1⟩ := x_measure (N := N) hS hw hN
  have hS1 : StC C1 4 a := hS.cg (fun j _ _ => x1 j (by omega) (by omega) (by omega) (by omega))
  have s0 : C1 23 0 = nI (a 3) := hS1.2.2.2.2 0 (by decide)
  have s1 : C1 23 1 = nI (a 4) := hS1.2.2.2.2 1 (by decide)
  have s2 : C1 23 2 = nI (a 5) := hS1.2.2.2.2 2 (by decide)
  obtain ⟨C2, e2, x2, hB2⟩ := x_draw (N := N) hF1 hw (k := 113) (Or.inl rfl) hm hst hN
  have hS2 : StC C2 4 a := hS1.cg (fun j _ _ => x2 j (by omega))
  have hF2 : FmC C2 a := hF1.cg (x2 106 (by decide)) (x2 108 (by decide)) (x2 110 (by decide)) (x2 112 (by decide))
  obtain ⟨C3, e3, x3, hH3⟩ := x_hideWords (N := N) hS2 hF2 hw hN
  have hS3 : StC C3 4 a := hS2.cg (fun j _ _ => x3 j (by omega) (by omega))
  have hF3 : FmC C3 a := hF2.cg (x3 106 (by decide) (by decide)) (x3 108 (by decide) (by decide)) (x3 110 (by decide) (by decide)) (x3 112 (by decide) (by decide))
  have hB3 : BrC C3 113 a (a 3) (a 4) := hB2.cg (x3 115 (by decide) (by decide))
  obtain ⟨C4, e4, x4, hD4⟩ := x_flow (N := N) hS3 hH3 hB3 hw hst hN
  refine ⟨C4, ?_, fun j hj => by rw [x4 j (by omega) (by omega) (by omega) (by omega) (by omega), x3 j (by omega) (by omega), x2 j (by omega), x1 j (by omega) (by omega) (by omega) (by omega)], ?_, ?_, ?_, hD4⟩
  · unfold f_X8_workOut
    rw [e1, ob, i_0, x_at (k := 22) (n := 5) rfl (by decide) (by decide), ob, i_1, x_at (k := 22) (n := 5) rfl (by decide) (by decide), ob, i_2, x_at (k := 22) (n := 5) rfl (by decide) (by decide), ob, s0, s1, s2, e2, ob, e3, ob, e4, ob]
  · exact hF3.cg (x4 106 (by decide) (by decide) (by decide) (by decide) (by decide)) (x4 108 (by decide) (by decide) (by decide) (by decide) (by decide)) (x4 110 (by decide) (by decide) (by decide) (by decide) (by decide)) (x4 112 (by decide) (by decide) (by decide) (by decide) (by decide))
  · exact hB3.cg (x4 115 (by decide) (by decide) (by decide) (by decide) (by decide))
  · exact hH3.cg (x4 121 (by decide) (by decide) (by decide) (by decide) (by decide)) (x4 123 (by decide) (by decide) (by decide) (by decide) (by decide))
theorem ShpC.cg {C' : kS} {q : Nat} (h : ShpC C q) (h1 : C' (q + 1) = C (q + 1)) (h2 : C' (q + 6) = C (q + 6)) (h3 : C' (q + 11) = C (q + 11)) : ShpC C' q := by
  unfold ShpC
  rw [h1, h2, h3]
  exact h
theorem HsC.cg {C' M' : kS} (hH : HsC C M h p bs) (hC : ∀ j, 24 ≤ j → j < 106 → C' j = C j) (hM2 : M' 2 = M 2) (hM0 : M' 0 2 = M 0 2) : HsC C' M' h p bs := by
  obtain ⟨h4, h1, h2, hp, hi, hs⟩ := hH
  have hq : ∀ i, i < 4 → 26 ≤ p i ∧ p i ≤ 86 := fun i hi4 => by
    have := (hp i hi4).2.1
    have := (hp i hi4).2.2.1
    unfold Qs at *
    omega
  refine ⟨h4, by rw [hC 24 (by decide) (by decide)]; exact h1, by rw [hM0]; exact h2, fun i hi4 => ?_, hi, fun j hj => ?_⟩
  · have := hq i hi4
    obtain ⟨q1, q2, q3, q4⟩ := hp i hi4
    exact ⟨by rw [hC 25 (by decide) (by decide)]; exact q1, q2, q3, q4.cg (hC _ (by omega) (by omega)) (hC _ (by omega) (by omega)) (hC _ (by omega) (by omega))⟩
  · have := hq j (by omega)
    obtain ⟨b1, b2, b3⟩ := hs j hj
    exact ⟨b1, b2.cg (fun k k1 k2 => hC k (by omega) (by omega)), fun i hi2 => by rw [hM2]; exact b3 i hi2⟩
def Rl (C M : kS) : Prop := ∃ a h p bs t c, RD C M a ∧ HsC C M h p bs ∧ TxC C M t c
theorem J_fin (hw : WF a) (hM : SM M a) (hS : StC C 4 a) (hH : HsC C M h p bs) (hT : TxC C M t c) (hN : 3000 ≤ N) : ∃ C', f_X8_workOut N C = some C' ∧ (∀ j, j < 106 → C' j = C j) ∧ Rl C' M := by
  obtain ⟨C1, e1, x1, hD⟩ := x_workOut (N := N) hS hw hN
  exact ⟨C1, e1, x1, a, h, p, bs, t, c, ⟨hw, hM, hS.cg (fun j _ _ => x1 j (by omega)), hD⟩, hH.cg (fun j _ j2 => x1 j j2) rfl rfl, hT.cgC (by rw [x1 1 (by decide)]) (x1 3 (by decide))⟩
theorem WL.cga {a' : kA} {base wide most n mw : Nat} (hL : WL a base wide most n) (hwd : wide = most + 1) (hn : n ≤ mw) (hs : ∀ j, base ≤ j → j < base + wide * mw → a' j = a j) : WL a' base wide most n := fun w hw => by
  obtain ⟨b1, b2⟩ := hL w hw
  have hm := wm (wide := wide) (show w < mw by omega)
  rw [hs (base + wide * w) (by omega) (by omega)]
  exact ⟨b1, fun i hi => by rw [hs _ (by omega) (by omega)]; exact b2 i hi⟩
theorem WdC.cga {a' : kA} {k mw ml n base wide : Nat} (hW : WdC C k mw ml a n base wide) (hle : ∀ w, w < n → a (base + wide * w) ≤ ml) (hwd : wide = ml + 1) (hn : n ≤ mw) (hs : ∀ j, base ≤ j → j < base + wide * mw → a' j = a j) : WdC C k mw ml a' n base wide := by
  obtain ⟨w0, w1, w2, w3⟩ := hW
  refine ⟨w0, w1, w2, fun w hw => ?_⟩
  have hm := wm (wide := wide) (show w < mw by omega)
  have hl := hle w hw
  obtain ⟨b1, b2⟩ := w3 w hw
  rw [hs (base + wide * w) (by omega) (by omega)]
  exact ⟨b1, fun i hi => by rw [hs _ (by omega) (by omega)]; exact b2 i hi⟩
/-- the page has changed -/
theorem chgP {C' : kS} {a' : kA} (hw : WF a) (hS : StC C 4 a) (hC : ∀ j, j ≠ 5 → j ≠ 7 → j ≠ 9 → C' j = C j) (hW : WdC C' 5 40 12 a' (a' 0) 34 13) (hI : a' 0 ≤ 40 ∧ WL a' 34 13 12 (a' 0)) (ho : ∀ j, j ≠ 0 → (j < 34 ∨ 554 ≤ j) → a' j = a j) : WF a' ∧ StC C' 4 a' := by
  obtain ⟨w0, w1, w2, w3, w4, w5, w6, w7, wl, wp, wn, we⟩ := hw
  obtain ⟨hp, hn, he, hl, hs⟩ := hS
  have o : ∀ j, j ≠ 0 → (j < 34 ∨ 554 ≤ j) → a' j = a j := ho
  have o1 := o 1 (by decide) (by decide)
  have o2 := o 2 (by decide) (by decide)
  refine ⟨⟨hI.1, by omega, by omega, by rw [o 3 (by decide) (by decide)]; exact w3, by rw [o 4 (by decide) (by decide)]; exact w4, by rw [o 5 (by decide) (by decide)]; exact w5, by rw [o 6 (by decide) (by decide)]; exact w6, by rw [o 7 (by decide) (by decide)]; exact w7, fun k hk => by rw [o (8 + k) (by omega) (by omega)]; exact wl k hk, hI.2, ?_, ?_⟩, hW, ?_, ?_, fun j hj => ?_, fun j hj => ?_⟩
  · rw [o1]; exact wn.cga (mw := 8) rfl w1 (fun j h1 h2 => o j (by omega) (by omega))
  · rw [o2]; exact we.cga (mw := 4) rfl w2 (fun j h1 h2 => o j (by omega) (by omega))
  · rw [o1]; exact (hn.cg (hC 10 (by decide) (by decide) (by decide)) (hC 12 (by decide) (by decide) (by decide)) (hC 14 (by decide) (by decide) (by decide))).cga (fun w hwd => (wn w hwd).1.2) rfl w1 (fun j h1 h2 => o j (by omega) (by omega))
  · rw [o2]; exact (he.cg (hC 15 (by decide) (by decide) (by decide)) (hC 17 (by decide) (by decide) (by decide)) (hC 19 (by decide) (by decide) (by decide))).cga (fun w hwd => (we w hwd).1.2) rfl w2 (fun j h1 h2 => o j (by omega) (by omega))
  · rw [hC (4 + 17) (by decide) (by decide) (by decide), o (8 + j) (by omega) (by omega)]; exact hl j hj
  · rw [hC (4 + 19) (by decide) (by decide) (by decide), o (3 + j) (by omega) (by omega)]; exact hs j hj
theorem chgN {C' : kS} {a' : kA} (hw : WF a) (hS : StC C 4 a) (hC : ∀ j, j ≠ 10 → j ≠ 12 → j ≠ 14 → C' j = C j) (hW : WdC C' 10 8 8 a' (a' 1) 554 9) (hI : a' 1 ≤ 8 ∧ WL a' 554 9 8 (a' 1)) (ho : ∀ j, j ≠ 1 → (j < 554 ∨ 626 ≤ j) → a' j = a j) : WF a' ∧ StC C' 4 a' := by
  obtain ⟨w0, w1, w2, w3, w4, w5, w6, w7, wl, wp, wn, we⟩ := hw
  obtain ⟨hp, hn, he, hl, hs⟩ := hS
  have o : ∀ j, j ≠ 1 → (j < 554 ∨ 626 ≤ j) → a' j = a j := ho
  have o1 := o 0 (by decide) (by decide)
  have o2 := o 2 (by decide) (by decide)
  refine ⟨⟨by omega, hI.1, by omega, by rw [o 3 (by decide) (by decide)]; exact w3, by rw [o 4 (by decide) (by decide)]; exact w4, by rw [o 5 (by decide) (by decide)]; exact w5, by rw [o 6 (by decide) (by decide)]; exact w6, by rw [o 7 (by decide) (by decide)]; exact w7, fun k hk => by rw [o (8 + k) (by omega) (by omega)]; exact wl k hk, ?_, hI.2, ?_⟩, ?_, hW, ?_, fun j hj => ?_, fun j hj => ?_⟩
  · rw [o1]; exact wp.cga (mw := 40) rfl w0 (fun j h1 h2 => o j (by omega) (by omega))
  · rw [o2]; exact we.cga (mw := 4) rfl w2 (fun j h1 h2 => o j (by omega) (by omega))
  · rw [o1]; exact (hp.cg (hC 5 (by decide) (by decide) (by decide)) (hC 7 (by decide) (by decide) (by decide)) (hC 9 (by decide) (by decide) (by decide))).cga (fun w hwd => (wp w hwd).1.2) rfl w0 (fun j h1 h2 => o j (by omega) (by omega))
  · rw [o2]; exact (he.cg (hC 15 (by decide) (by decide) (by decide)) (hC 17 (by decide) (by decide) (by decide)) (hC 19 (by decide) (by decide) (by decide))).cga (fun w hwd => (we w hwd).1.2) rfl w2 (fun j h1 h2 => o j (by omega) (by omega))
  · rw [hC (4 + 17) (by decide) (by decide) (by decide), o (8 + j) (by omega) (by omega)]; exact hl j hj
  · rw [hC (4 + 19) (by decide) (by decide) (by decide), o (3 + j) (by omega) (by omega)]; exact hs j hj
theorem chgE {C' : kS} {a' : kA} (hw : WF a) (hS : StC C 4 a) (hC : ∀ j, j ≠ 15 → j ≠ 17 → j ≠ 19 → C' j = C j) (hW : WdC C' 15 4 3 a' (a' 2) 626 4) (hI : a' 2 ≤ 4 ∧ WL a' 626 4 3 (a' 2)) (ho : ∀ j, j ≠ 2 → j < 626 → a' j = a j) : WF a' ∧ StC C' 4 a' := by
  obtain ⟨w0, w1, w2, w3, w4, w5, w6, w7, wl, wp, wn, we⟩ := hw
  obtain ⟨hp, hn, he, hl, hs⟩ := hS
  have o : ∀ j, j ≠ 2 → j < 626 → a' j = a j := ho
  have o1 := o 0 (by decide) (by decide)
  have o2 := o 1 (by decide) (by decide)
  refine ⟨⟨by omega, by omega, hI.1, by rw [o 3 (by decide) (by decide)]; exact w3, by rw [o 4 (by decide) (by decide)]; exact w4, by rw [o 5 (by decide) (by decide)]; exact w5, by rw [o 6 (by decide) (by decide)]; exact w6, by rw [o 7 (by decide) (by decide)]; exact w7, fun k hk => by rw [o (8 + k) (by omega) (by omega)]; exact wl k hk, ?_, ?_, hI.2⟩, ?_, ?_, hW, fun j hj => ?_, fun j hj => ?_⟩
  · rw [o1]; exact wp.cga (mw := 40) rfl w0 (fun j h1 h2 => o j (by omega) (by omega))
  · rw [o2]; exact wn.cga (mw := 8) rfl w1 (fun j h1 h2 => o j (by omega) (by omega))
  · rw [o1]; exact (hp.cg (hC 5 (by decide) (by decide) (by decide)) (hC 7 (by decide) (by decide) (by decide)) (hC 9 (by decide) (by decide) (by decide))).cga (fun w hwd => (wp w hwd).1.2) rfl w0 (fun j h1 h2 => o j (by omega) (by omega))
  · rw [o2]; exact (hn.cg (hC 10 (by decide) (by decide) (by decide)) (hC 12 (by decide) (by decide) (by decide)) (hC 14 (by decide) (by decide) (by decide))).cga (fun w hwd => (wn w hwd).1.2) rfl w1 (fun j h1 h2 => o j (by omega) (by omega))
  · rw [hC (4 + 17) (by decide) (by decide) (by decide), o (8 + j) (by omega) (by omega)]; exact hl j hj
  · rw [hC (4 + 19) (by decide) (by decide) (by decide), o (3 + j) (by omega) (by omega)]; exact hs j hj
/-- a width of a letter, or a setting -/
theorem chgS {C' : kS} {a' : kA} (hw : WF a) (hS : StC C 4 a) (hC : ∀ j, j ≠ 21 → j ≠ 23 → C' j = C j) (h21 : LtC C' 21 a') (h23 : ∀ j, j < 5 → C' 23 j = nI (a' (3 + j))) (hI : a' 3 ≤ 3 ∧ (1 ≤ a' 4 ∧ a' 4 ≤ 50) ∧ (1 ≤ a' 5 ∧ a' 5 ≤ 8) ∧ (1 ≤ a' 6 ∧ a' 6 ≤ 9) ∧ (20 ≤ a' 7 ∧ a' 7 ≤ 200) ∧ ∀ k, k < 26 → 1 ≤ a' (8 + k) ∧ a' (8 + k) ≤ 9) (ho : ∀ j, (j < 3 ∨ 34 ≤ j) → a' j = a j) : WF a' ∧ StC C' 4 a' := by
  obtain ⟨w0, w1, w2, w3, w4, w5, w6, w7, wl, wp, wn, we⟩ := hw
  obtain ⟨hp, hn, he, hl, hs⟩ := hS
  have o0 := ho 0 (by decide)
  have o1 := ho 1 (by decide)
  have o2 := ho 2 (by decide)
  refine ⟨⟨by omega, by omega, by omega, hI.1, hI.2.1, hI.2.2.1, hI.2.2.2.1, hI.2.2.2.2.1, hI.2.2.2.2.2, ?_, ?_, ?_⟩, ?_, ?_, ?_, h21, h23⟩
  · rw [o0]; exact wp.cga (mw := 40) rfl w0 (fun j h1 h2 => ho j (by omega))
  · rw [o1]; exact wn.cga (mw := 8) rfl w1 (fun j h1 h2 => ho j (by omega))
  · rw [o2]; exact we.cga (mw := 4) rfl w2 (fun j h1 h2 => ho j (by omega))
  · rw [o0]; exact (hp.cg (hC 5 (by decide) (by decide)) (hC 7 (by decide) (by decide)) (hC 9 (by decide) (by decide))).cga (fun w hwd => (wp w hwd).1.2) rfl w0 (fun j h1 h2 => ho j (by omega))
  · rw [o1]; exact (hn.cg (hC 10 (by decide) (by decide)) (hC 12 (by decide) (by decide)) (hC 14 (by decide) (by decide))).cga (fun w hwd => (wn w hwd).1.2) rfl w1 (fun j h1 h2 => ho j (by omega))
  · rw [o2]; exact (he.cg (hC 15 (by decide) (by decide)) (hC 17 (by decide) (by decide)) (hC 19 (by decide) (by decide))).cga (fun w hwd => (we w hwd).1.2) rfl w2 (fun j h1 h2 => ho j (by omega))
end CC1
