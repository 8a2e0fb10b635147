/-! ===== all calls ===== -/
section ALL
variable {C M : kS} {N : Nat}
theorem Rl.q {a : kA} {h t : Nat} {p : Nat → Nat} {bs : Nat → kA} {c : Nat → Nat} {M' : kS} (hR : RD C M a) (hH : HsC C M h p bs) (hT : TxC C M t c) (hA : AgM M M') : Rl C M' :=
  ⟨a, h, p, bs, t, c, ⟨hR.1, hA.sm hR.2.1, hR.2.2.1, hR.2.2.2⟩, hH.cg (fun _ _ _ => rfl) hA.2.1 hA.2.2.2.1, hT.cgM hA.2.2.1 hA.2.2.2.2.1⟩
theorem Rl.f {a : kA} {h t : Nat} {p : Nat → Nat} {bs : Nat → kA} {c : Nat → Nat} {C' M' : kS} (hR : RD C M a) (hH : HsC C M h p bs) (hT : TxC C' M' t c) (hC : ∀ j, j ≠ 1 → j ≠ 3 → C' j = C j) (hM : ∀ j, j ≠ 0 → j ≠ 3 → M' j = M j) (hM2 : M' 0 2 = M 0 2) : Rl C' M' := by
  obtain ⟨hw, hS, hSt, hF, hB, hHd, hSh⟩ := hR
  refine ⟨a, h, p, bs, t, c, ⟨hw, fun i hi => by rw [hM 1 (by decide) (by decide)]; exact hS i hi, hSt.cg (fun j _ _ => hC j (by omega) (by omega)), hF.cg (hC 106 (by decide) (by decide)) (hC 108 (by decide) (by decide)) (hC 110 (by decide) (by decide)) (hC 112 (by decide) (by decide)), hB.cg (hC 115 (by decide) (by decide)), hHd.cg (hC 121 (by decide) (by decide)) (hC 123 (by decide) (by decide)), ?_⟩, hH.cg (fun j _ _ => hC j (by omega) (by omega)) (hM 2 (by decide) (by decide)) hM2, hT⟩
  unfold ShC
  rw [hC 119 (by decide) (by decide), hC 125 (by decide) (by decide), hC 127 (by decide) (by decide), hC 129 (by decide) (by decide), hC 131 (by decide) (by decide)]
  exact hSh
theorem Rl.e {a : kA} {h t : Nat} {p : Nat → Nat} {bs : Nat → kA} {c : Nat → Nat} {C' M' : kS} (hR : RD C M a) (hH : HsC C M h p bs) (hT : TxC C M t c) (hA : AgM M M') (hx : Ex118 C C') : Rl C' M' := by
  obtain ⟨hw, hS, hSt, hF, hB, hHd, hSh⟩ := hR
  refine ⟨a, h, p, bs, t, c, ⟨hw, hA.sm hS, hSt.cg2 hx, hF.cg2 hx, hB.cg (hx 115 (by decide)), hHd.cg2 hx, ?_⟩, hH.cg (fun j _ _ => hx j (by omega)) hA.2.1 hA.2.2.2.1, (hT.cgM hA.2.2.1 hA.2.2.2.2.1).cgC (by rw [hx 1 (by decide)]) (hx 3 (by decide))⟩
  unfold ShC
  rw [hx 119 (by decide), hx 125 (by decide), hx 127 (by decide), hx 129 (by decide), hx 131 (by decide)]
  exact hSh
theorem K_count (h : Rl C M) (v : Int32) (hN : 3000 ≤ N) : ∃ r M', f_X8_count N C v = some r ∧ f_X9_count N M v = some (r, M') ∧ Rl C M' := by
  obtain ⟨a, h, p, bs, t, c, hR, hH, hT⟩ := h
  obtain ⟨r, M', e1, e2, hA⟩ := J_count hR (by rw [hH.2.1, hH.2.2.1]) (by rw [hT.2.1, hT.2.2.1]) v hN
  exact ⟨r, M', e1, e2, Rl.q hR hH hT hA⟩
theorem K_word (h : Rl C M) (v i : Int32) (hN : 3000 ≤ N) : ∃ r M', f_X8_word N C v i = some r ∧ f_X9_word N M v i = some (r, M') ∧ Rl C M' := by
  obtain ⟨a, h, p, bs, t, c, hR, hH, hT⟩ := h
  obtain ⟨r, M', e1, e2, hA⟩ := J_word hR v i hN
  exact ⟨r, M', e1, e2, Rl.q hR hH hT hA⟩
theorem K_letter (h : Rl C M) (v i : Int32) (hN : 3000 ≤ N) : ∃ r M', f_X8_letter N C v i = some r ∧ f_X9_letter N M v i = some (r, M') ∧ Rl C M' := by
  obtain ⟨a, h, p, bs, t, c, hR, hH, hT⟩ := h
  obtain ⟨r, M', e1, e2, hA⟩ := J_letter hR v i hN
  exact ⟨r, M', e1, e2, Rl.q hR hH hT hA⟩
theorem K_line (h : Rl C M) (v i : Int32) (hN : 3000 ≤ N) : ∃ r M', f_X8_line N C v i = some r ∧ f_X9_line N M v i = some (r, M') ∧ Rl C M' := by
  obtain ⟨a, h, p, bs, t, c, hR, hH, hT⟩ := h
  obtain ⟨r, M', e1, e2, hA⟩ := J_line hR v i hN
  exact ⟨r, M', e1, e2, Rl.q hR hH hT hA⟩
theorem K_again (h : Rl C M) (v : Int32) (hN : 3000 ≤ N) : ∃ r M', f_X8_widthAgain N C v = some r ∧ f_X9_widthAgain N M v = some (r, M') ∧ Rl C M' := by
  obtain ⟨a, h, p, bs, t, c, hR, hH, hT⟩ := h
  obtain ⟨r, M', e1, e2, hA⟩ := J_again hR v hN
  exact ⟨r, M', e1, e2, Rl.q hR hH hT hA⟩
theorem K_form (h : Rl C M) (v u i : Int32) (hN : 3000 ≤ N) : ∃ r M', f_X8_form N C v u i = some r ∧ f_X9_form N M v u i = some (r, M') ∧ Rl C M' := by
  obtain ⟨a, h, p, bs, t, c, hR, hH, hT⟩ := h
  obtain ⟨r, M', e1, e2, hA⟩ := J_form hR v u i hN
  exact ⟨r, M', e1, e2, Rl.q hR hH hT hA⟩
theorem K_under (h : Rl C M) (v : Int32) (hN : 3000 ≤ N) : ∃ r M', f_X8_under N C v = some r ∧ f_X9_under N M v = some (r, M') ∧ Rl C M' := by
  obtain ⟨a, h, p, bs, t, c, hR, hH, hT⟩ := h
  obtain ⟨r, M', e1, e2, hA⟩ := J_under hR v hN
  exact ⟨r, M', e1, e2, Rl.q hR hH hT hA⟩
theorem K_guess (h : Rl C M) (v u i : Int32) (hN : 3000 ≤ N) : ∃ r M', f_X8_guess N C v u i = some r ∧ f_X9_guess N M v u i = some (r, M') ∧ Rl C M' := by
  obtain ⟨a, h, p, bs, t, c, hR, hH, hT⟩ := h
  obtain ⟨r, M', e1, e2, hA⟩ := J_guess hR v u i hN
  exact ⟨r, M', e1, e2, Rl.q hR hH hT hA⟩
theorem K_same (h : Rl C M) (v i : Int32) (hN : 3000 ≤ N) : ∃ r M', f_X8_same N C v i = some r ∧ f_X9_same N M v i = some (r, M') ∧ Rl C M' := by
  obtain ⟨a, h, p, bs, t, c, hR, hH, hT⟩ := h
  obtain ⟨r, M', e1, e2, hA⟩ := J_same hR v i hN
  exact ⟨r, M', e1, e2, Rl.q hR hH hT hA⟩
theorem K_fault (h : Rl C M) (v : Int32) (hN : 3000 ≤ N) : ∃ r M', f_X8_fault N C v = some r ∧ f_X9_fault N M v = some (r, M') ∧ Rl C M' := by
  obtain ⟨a, h, p, bs, t, c, hR, hH, hT⟩ := h
  obtain ⟨r, M', e1, e2, h0, h5⟩ := J_fault hT v hN
  exact ⟨r, M', e1, e2, Rl.f hR hH (hT.cgM (h0 3 (by decide)) (h5 4 (by decide))) (fun _ _ _ => rfl) (fun j j0 _ => h0 j j0) (h5 2 (by decide))⟩
theorem K_type (h : Rl C M) (v : Int32) : ∃ r C' M', f_X8_type N C v = some (r, C') ∧ f_X9_type N M v = some (r, M') ∧ Rl C' M' := by
  obtain ⟨a, h, p, bs, t, c, hR, hH, hT⟩ := h
  obtain ⟨r, C', M', t', c', e1, e2, hT', x1, x2, x3⟩ := J_type (N := N) hT v
  exact ⟨r, C', M', e1, e2, Rl.f hR hH hT' x1 x2 (x3 2 (by decide))⟩
theorem K_clear (h : Rl C M) : ∃ r C' M', f_X8_clearText N C = some (r, C') ∧ f_X9_clearText N M = some (r, M') ∧ Rl C' M' := by
  obtain ⟨a, h, p, bs, t, c, hR, hH, hT⟩ := h
  obtain ⟨r, C', M', t', c', e1, e2, hT', x1, x2, x3⟩ := J_clear (N := N) hT
  exact ⟨r, C', M', e1, e2, Rl.f hR hH hT' x1 x2 (x3 2 (by decide))⟩
theorem K_page (h : Rl C M) (hN : 3000 ≤ N) : ∃ r C' M', f_X8_page N C = some (r, C') ∧ f_X9_page N M = some (r, M') ∧ Rl C' M' := by
  obtain ⟨a, h, p, bs, t, c, hR, hH, hT⟩ := h
  exact J_page hR hH hT hN
theorem K_name (h : Rl C M) (hN : 3000 ≤ N) : ∃ r C' M', f_X8_name N C = some (r, C') ∧ f_X9_name N M = some (r, M') ∧ Rl C' M' := by
  obtain ⟨a, h, p, bs, t, c, hR, hH, hT⟩ := h
  exact J_name hR hH hT hN
theorem K_ending (h : Rl C M) (hN : 3000 ≤ N) : ∃ r C' M', f_X8_ending N C = some (r, C') ∧ f_X9_ending N M = some (r, M') ∧ Rl C' M' := by
  obtain ⟨a, h, p, bs, t, c, hR, hH, hT⟩ := h
  exact J_ending hR hH hT hN
theorem K_dropName (h : Rl C M) (v : Int32) (hN : 3000 ≤ N) : ∃ r C' M', f_X8_dropName N C v = some (r, C') ∧ f_X9_dropName N M v = some (r, M') ∧ Rl C' M' := by
  obtain ⟨a, h, p, bs, t, c, hR, hH, hT⟩ := h
  exact J_dropName hR hH hT v hN
theorem K_dropEnding (h : Rl C M) (v : Int32) (hN : 3000 ≤ N) : ∃ r C' M', f_X8_dropEnding N C v = some (r, C') ∧ f_X9_dropEnding N M v = some (r, M') ∧ Rl C' M' := by
  obtain ⟨a, h, p, bs, t, c, hR, hH, hT⟩ := h
  exact J_dropEnding hR hH hT v hN
theorem K_widen (h : Rl C M) (v u : Int32) (hN : 3000 ≤ N) : ∃ r C' M', f_X8_widen N C v u = some (r, C') ∧ f_X9_widen N M v u = some (r, M') ∧ Rl C' M' := by
  obtain ⟨a, h, p, bs, t, c, hR, hH, hT⟩ := h
  exact J_widen hR hH hT v u hN
theorem K_set (h : Rl C M) (v u : Int32) (hN : 3000 ≤ N) : ∃ r C' M', f_X8_set N C v u = some (r, C') ∧ f_X9_set N M v u = some (r, M') ∧ Rl C' M' := by
  obtain ⟨a, h, p, bs, t, c, hR, hH, hT⟩ := h
  exact J_set hR hH hT v u hN
theorem K_undo (h : Rl C M) (hN : 3000 ≤ N) : ∃ r C' M', f_X8_undo N C = some (r, C') ∧ f_X9_undo N M = some (r, M') ∧ Rl C' M' := by
  obtain ⟨a, h, p, bs, t, c, hR, hH, hT⟩ := h
  exact J_undo hR hH hT hN
theorem K_stepFor (h : Rl C M) (v : Int32) (hN : 3000 ≤ N) : ∃ r C' M', f_X8_stepFor N C v = some (r, C') ∧ f_X9_stepFor N M v = some (r, M') ∧ Rl C' M' := by
  obtain ⟨a, h, p, bs, t, c, hR, hH, hT⟩ := h
  obtain ⟨r, C', M', e1, e2, hA, hx⟩ := J_stepFor hR v hN
  exact ⟨r, C', M', e1, e2, Rl.e hR hH hT hA hx⟩
theorem K_modeFor (h : Rl C M) (hN : 3000 ≤ N) : ∃ r C' M', f_X8_modeFor N C = some (r, C') ∧ f_X9_modeFor N M = some (r, M') ∧ Rl C' M' := by
  obtain ⟨a, h, p, bs, t, c, hR, hH, hT⟩ := h
  obtain ⟨r, C', M', e1, e2, hA, hx⟩ := J_modeFor hR hN
  exact ⟨r, C', M', e1, e2, Rl.e hR hH hT hA hx⟩
end ALL
