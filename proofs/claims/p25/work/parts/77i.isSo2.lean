/-! ===== a word more: lines, sums ===== -/
def nbB (a : kA) (w : Nat) : Bool := decide (w = 0 ∨ a 7 < LPw a w + sA a w)
theorem nbB_t {a : kA} {w : Nat} (h : nbB a w = true) : nb a w := by
  unfold nb
  exact of_decide_eq_true h
theorem nbB_f {a : kA} {w : Nat} (h : nbB a w = false) : ¬ nb a w := by
  unfold nb
  exact of_decide_eq_false h
section IS2
variable {C L K : kS} {a : kA} {N w : Nat}
theorem PL_LP (hR : RC C a) (hw0 : 0 < w) (hwd : w ≤ a 0) : PLc a w + a 6 = LPw a w ∧ PLc a w ≤ 400 := by
  obtain ⟨v, rfl⟩ : ∃ v, w = v + 1 := ⟨w - 1, by omega⟩
  have hD := hR.2.2.2.2.2
  have hw := hR.1
  obtain ⟨i1, i2⟩ := line_inv hD v (by omega)
  have hb := (ly_b (s := sA a) (gp := a 6) (lw := a 7) (n := a 0) (fun v hv => sh_le hw hw.2.2.2.2.1 hv) (by have := hw.2.2.2.2.2.2.1; omega) (by have := hw.2.2.2.2.2.2.2.1; omega) (v + 1) hwd).2
  unfold PLc
  rw [if_neg (Nat.succ_ne_zero v)]
  have e : LPw a (v + 1) = (ly (sA a) (a 6) (a 7) (v + 1)).2 := rfl
  omega
theorem f_lineQ (hR : RC C a) (hb : LB a) (hwd : w < a 0) (h4 : K 4 4 = nI (B4 a w)) (hN : 3000 ≤ N) {α : Type} (j : Int32 → Int32 → Int32 → Int32 → (kS × kS) → Option α) : jn (jn (fun (t241 : Int32) => gIn (nI 3) 8 (gIn (nI 4) 6 (jn ((C, up1 K 4 (upd (K 4) 4 (nI 0)))) (fun p245 : kS × kS => jn (fun (t246 : Int32) => j (nI (LN a w) - nI 1 + nI 1) (-(nI (a 6))) (nI w) t246 p245) (fun j353_246 => jn (j353_246 (nI 0)) (fun j352_247 => if t241 = nI 0 then j352_247 else (f_X8_line N p245.1 (nI (LN a w) - nI 1 + nI 1) (nI 0)).bind (fun r251 => if r251 = nI w then j353_246 (nI 1) else j352_247))))))) (fun j311_241 => jn (j311_241 (nI 1)) (fun j306_252 => if nI (LN a w) - nI 1 < nI 0 then j306_252 else (f_X8_line N C (nI (LN a w) - nI 1) (nI 1)).bind (fun r256 => jn (j311_241 (nI 0)) (fun j310_256 => if r256 = (nI w - nI (FSt a w)) then (f_X8_line N C (nI (LN a w) - nI 1) 2).bind (fun r260 => if r260 = nI (PLc a w) then (f_X8_widthAgain N C (nI (LN a w) - nI 1)).bind (fun r263 => if r263 = nI (PLc a w) then (f_X8_line N C (nI (LN a w) - nI 1) (nI 4)).bind (fun r266 => gIn (nI 4) 6 (if r266 = (K 4 4) then (f_X8_line N C (nI (LN a w) - nI 1) (nI 3)).bind (fun r270 => gIn (nI 4) 8 (jn (fun (t272 : Int32) => if r270 = t272 then j306_252 else j310_256) (fun j303_272 => if nI (PLc a w) ≤ nI (a 7) then gIn (nI 4) 8 (j303_272 (nI (a 7) - nI (PLc a w))) else j303_272 (nI 0)))) else j310_256)) else j310_256) else j310_256) else j310_256))))) (fun j221_239 => if nI (LN a w) - nI 1 < nI 0 then j221_239 else gIn (nI 3) 8 (gIn (nI 4) 8 (if ((nI (PLc a w) + nI (a 6)) + nI (sA a w)) ≤ nI (a 7) then j (nI (LN a w) - nI 1) (nI (PLc a w)) (nI (FSt a w)) (nI 1) (C, K) else j221_239))) = j (if nbB a w = true then nI (LN a w) else nI (LN a w) - nI 1) (if nbB a w = true then -(nI (a 6)) else nI (PLc a w)) (if nbB a w = true then nI w else nI (FSt a w)) (nI 1) (C, if nbB a w = true then up1 K 4 (upd (K 4) 4 (nI 0)) else K) := by
  have hw := hR.1
  have hD := hR.2.2.2.2.2
  have hst := hw.2.2.2.2.1
  have w8 := hb.1
  have hs : sA a w ≤ 148 := sh_le hw (m := a 3) hst hwd
  have hln := lnN_le hw (m := a 3) hst
  have h6 := hw.2.2.2.2.2.2.1
  have h7 := hw.2.2.2.2.2.2.2.1
  have hLN := LN_le (a := a) (w := w) (by omega)
  have key : ∀ t : Int32, t = nI 1 → nbB a w = true → gIn (nI 3) 8 (gIn (nI 4) 6 (jn ((C, up1 K 4 (upd (K 4) 4 (nI 0)))) (fun p245 : kS × kS => jn (fun (t246 : Int32) => j (nI (LN a w) - nI 1 + nI 1) (-(nI (a 6))) (nI w) t246 p245) (fun j353_246 => jn (j353_246 (nI 0)) (fun j352_247 => if t = nI 0 then j352_247 else (f_X8_line N p245.1 (nI (LN a w) - nI 1 + nI 1) (nI 0)).bind (fun r251 => if r251 = nI w then j353_246 (nI 1) else j352_247)))))) = j (nI (LN a w)) (-(nI (a 6))) (nI w) (nI 1) (C, up1 K 4 (upd (K 4) 4 (nI 0))) := fun t ht hn => by
    obtain ⟨n1, n2⟩ := nb_fs (nbB_t hn) hwd
    rw [q_gIn (by decide) (by decide), q_gIn (by decide) (by decide), jn_eq, m1_add]
    refine (jp1 (x := nI 1) (fun j2 => ?_)).trans rfl
    have v := V_line (N := N) hR n2 (j := 0) (by decide) hN
    rw [if_pos rfl, n1] at v
    rw [jn_eq, if_neg (by rw [ht, q_nT]; exact not_false), v, ob, if_pos rfl]
  cases z : nbB a w with
  | false =>
    have hn := nbB_f z
    have hw0 : 0 < w := by
      rcases Nat.eq_zero_or_pos w with e | e
      · exact absurd (Or.inl e) hn
      · exact e
    obtain ⟨p1, p2⟩ := PL_LP hR hw0 (by omega)
    have h1 := LN_1 (a := a) hw0
    have hle : PLc a w + a 6 + sA a w ≤ a 7 := by
      rcases Nat.lt_or_ge (a 7) (LPw a w + sA a w) with q | q
      · exact absurd (Or.inr q) hn
      · omega
    rw [jn_eq, if_neg (m1_pos h1 (by omega)), q_gIn (by decide) (by decide), q_gIn (by decide) (by decide), nI_add, nI_add, if_pos ((nI_leI (by omega) (by omega)).mpr hle)]
    simp only [Bool.false_eq_true, ↓reduceIte]
  | true =>
    have hn := nbB_t z
    simp only [↓reduceIte]
    rcases Nat.eq_zero_or_pos w with e | hw0
    · have e0 : LN a w = 0 := by rw [e]; rfl
      rw [jn_eq, if_pos (by rw [e0]; exact m1_neg)]
      refine (jp1 (x := nI 1) (fun j2 => ?_)).trans (key (nI 1) rfl z)
      rw [jn_eq, if_pos (by rw [e0]; exact m1_neg)]
    · obtain ⟨p1, p2⟩ := PL_LP hR hw0 (by omega)
      have h1 := LN_1 (a := a) hw0
      have hgt : ¬ PLc a w + a 6 + sA a w ≤ a 7 := by
        rcases hn with q | q
        · omega
        · omega
      obtain ⟨l1, l2, l3, l4, l5, l6⟩ := line_end hD hw0 (by omega) (Or.inr hn)
      have hfs : FSt a w = fsL a (a 3) (a 4) (LN a w - 1) := if_neg (by omega)
      rw [jn_eq, if_neg (m1_pos h1 (by omega)), q_gIn (by decide) (by decide), q_gIn (by decide) (by decide), nI_add, nI_add, if_neg (fun q => hgt ((nI_leI (by omega) (by omega)).mp q))]
      refine (jp1 (x := nI 1) (fun j2 => ?_)).trans (key (nI 1) rfl z)
      have v1 := V_line (N := N) hR l1 (j := 1) (by decide) hN
      have v2 := V_line (N := N) hR l1 (j := 2) (by decide) hN
      have v3 := V_line (N := N) hR l1 (j := 3) (by decide) hN
      have v4 := V_line (N := N) hR l1 (j := 4) (by decide) hN
      have v5 := V_again (N := N) hR l1
      simp (config := { decide := true }) only [↓reduceIte] at v1 v2 v3 v4
      rw [l2] at v1
      rw [l4] at v2 v3
      rw [l5] at v4
      rw [l2] at v5
      have l6' : plc (sh a (a 3) (a 4)) (a 6) (a 7) (w - 1) + sh a (a 3) (a 4) (w - 1) = PLc a w := l6
      rw [l6'] at v5
      rw [jn_eq, if_neg (m1_pos h1 (by omega)), q_sub h1, v1, ob, hfs, q_sub l3]
      rw [jn_eq, if_pos rfl, i_2, v2, ob, if_pos rfl, v5, ob, if_pos rfl, v4, ob, q_gIn (by decide) (by decide), h4, if_pos rfl, v3, ob, q_gIn (by decide) (by decide)]
      refine (jp1 (x := nI (a 7 - PLc a w)) (fun j3 => ?_)).trans (if_pos rfl)
      by_cases y : PLc a w ≤ a 7
      · rw [if_pos ((nI_leI (by omega) (by omega)).mpr y), q_gIn (by decide) (by decide), q_sub y]
      · rw [if_neg (fun q => y ((nI_leI (by omega) (by omega)).mp q)), show a 7 - PLc a w = 0 by omega]
end IS2
