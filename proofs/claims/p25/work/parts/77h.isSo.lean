/-! ===== the law's look at the page ===== -/
def ad4 (K : kS) (i : Nat) (x : Int32) : kS := up1 K 4 (upd (K 4) i (K 4 i + x))
theorem ad4_r (K : kS) (i : Nat) (x : Int32) : up1 K 4 (upd (K 4) i (K 4 i + x)) = ad4 K i x := rfl
theorem ad4_o {K : kS} {i j : Nat} {x : Int32} (h : j ≠ 4) : ad4 K i x j = K j := up1_n h
theorem ad4_s {K : kS} {i : Nat} {x : Int32} : ad4 K i x 4 i = K 4 i + x := by unfold ad4; rw [up1_s, pk_us]
theorem ad4_n {K : kS} {i j : Nat} {x : Int32} (h : j ≠ i) : ad4 K i x 4 j = K 4 j := by unfold ad4; rw [up1_s, pk_un h]
def SU (a : kA) (w : Nat) (f : Nat → Int32) : Prop := f 0 = nI (sumN (tm a (a 3) (a 4) 1) w) ∧ f 1 = nI (sumN (tm a (a 3) (a 4) 11) w) ∧ f 2 = nI (sumN (tm a (a 3) (a 4) 12) w) ∧ f 3 = nI (sumN (tm a (a 3) (a 4) 13) w) ∧ f 4 = nI (B4 a w) ∧ f 5 = nI (sumN (tm a (a 3) (a 4) 14) w)
def SI (a : kA) (C L : kS) (w : Nat) (y : Int32 × Int32 × Int32 × Int32 × (kS × kS)) : Prop := y.1 = nI (LN a w) - nI 1 ∧ y.2.1 = nI (PLc a w) ∧ y.2.2.1 = nI (FSt a w) ∧ y.2.2.2.1 = nI 1 ∧ y.2.2.2.2.1 = C ∧ (∀ j, j ≠ 4 → j ≠ 5 → y.2.2.2.2.2 j = L j) ∧ SU a w (y.2.2.2.2.2 4) ∧ ∀ k, k < w → y.2.2.2.2.2 5 k = if hid a k = true then nI (sA a k) else -1
section IS
variable {C L : kS} {a : kA} {N w : Nat}
theorem hid_wd (hw : WF a) (hb : LB a) (hwd : w < a 0) (h : hid a w = true) : wd a (34 + 13 * w) = fw a (fo a w) := by
  have h1 : fo a w < sF a := of_decide_eq_true h
  obtain ⟨u1, u2, u3, -⟩ := ul_ok hb h1
  have hF : isF a w (fo a w) = true := fst_yes _ _ h1
  have hp := pg_ok hw hwd
  have e1 : wd a (34 + 13 * w) = wS (lx a) (lc a (34 + 13 * w)) (a (34 + 13 * w)) := by unfold wd; rw [sW_wS]
  have e2 := fw_eq hw u1
  rw [u2] at e2
  rw [e1, e2]
  unfold isF at hF
  rw [Bool.and_eq_true, allB_iff] at hF
  have e3 : a (34 + 13 * w) = fl a (fo a w) := of_decide_eq_true hF.1
  rw [← e3]
  exact wS_congr (fun i hi => of_decide_eq_true (hF.2 i hi))
theorem sh_ge (hw : WF a) (hb : LB a) (hwd : w < a 0) : wd a (34 + 13 * w) ≤ sA a w := by
  cases z : hid a w with
  | true =>
    have h1 : fo a w < sF a := of_decide_eq_true z
    rw [hid_wd hw hb hwd z]
    show fw a (fo a w) ≤ sh a (a 3) (a 4) w
    rw [sh_t w z]
    exact bw_ge hw hw.2.2.2.2.1.1 h1
  | false =>
    show wd a (34 + 13 * w) ≤ sh a (a 3) (a 4) w
    rw [sh_f w z]
    exact Nat.le_refl _
theorem m1_pos {n : Nat} (h : 0 < n) (hn : n < 2147483648) : ¬ (nI n - nI 1 < nI 0) := by
  rw [q_sub h]
  exact nI_pos (by omega)
theorem m1_neg : (nI 0 - nI 1 < nI 0) := by decide
theorem m1_add (n : Nat) : nI n - nI 1 + nI 1 = nI n := Int32.sub_add_cancel _ _
theorem ng_add (x : Int32) : -x + x = nI 0 := by rw [Int32.add_left_neg]; decide
/-- everything that the law asks of a word -/
theorem f_wordsQ (hR : RC C a) (hb : LB a) {K : kS} (hK : LR K a) (hwd : w < a 0) {x85 x86 : Int32} (h85 : x85 = nI (lno (sA a) (a 6) (a 7) w)) (h86 : x86 + nI (a 6) = nI (plc (sA a) (a 6) (a 7) w)) (hN : 3000 ≤ N) {α : Type} (j : Int32 → Option α) : jn (j (nI 0)) (fun j558_185 => if nI 1 = nI 0 then j558_185 else (f_X8_word N C (nI w) (nI 0)).bind (fun r189 => gIn (nI w) 14 ((f_L_length N ((K 2 w).toInt64)).bind (fun r192 => if r189 = r192 then (f_X8_word N C (nI w) (nI 1)).bind (fun r195 => if r195 = nI (wd a (34 + 13 * w)) then (f_X8_word N C (nI w) 2).bind (fun r198 => if r198 = nI (sA a w) then (f_X8_word N C (nI w) (nI 3)).bind (fun r201 => jn (fun (t202 : Int32) => if r201 = t202 then (f_X8_word N C (nI w) (nI 4)).bind (fun r206 => jn (fun (t207 : Int32) => if r206 = t207 then (f_X8_word N C (nI w) (nI 5)).bind (fun r211 => jn (fun (t212 : Int32) => if r211 = t212 then (f_X8_word N C (nI w) 6).bind (fun r216 => if r216 = x85 then (f_X8_word N C (nI w) 7).bind (fun r219 => if r219 = (x86 + nI (a 6)) then (f_X8_word N C (nI w) 8).bind (fun r222 => jn (fun (t223 : Int32) => if r222 = t223 then (f_X8_word N C (nI w) 9).bind (fun r227 => jn (fun (t228 : Int32) => if r227 = t228 then j (nI 1) else j558_185) (fun j551_228 => if nI 0 ≤ fmI a w then (f_L_ones N (if hid a w = true then nI (nuM a (a 3) (a 4) (sA a w)) else nI 0)).bind (fun r233 => j551_228 r233) else j551_228 (-14))) else j558_185) (fun j525_223 => if nI 0 ≤ fmI a w then j525_223 (if hid a w = true then nI (nuM a (a 3) (a 4) (sA a w)) else nI 0) else j525_223 (-14))) else j558_185) else j558_185) else j558_185) (fun j476_212 => if nI 0 ≤ fmI a w then gNz (nI 3) (j476_212 ((fmI a w - fmI a w / nI 3 * nI 3) - nI 1)) else j476_212 (-14))) else j558_185) (fun j450_207 => if nI 0 ≤ fmI a w then gNz (nI 3) (j450_207 (fmI a w / nI 3)) else j450_207 (-14))) else j558_185) (fun j426_202 => if nI 0 ≤ fmI a w then j426_202 (nI 1) else j426_202 (nI 0))) else j558_185) else j558_185) else j558_185)))) = j (nI 1) := by
  have hw := hR.1
  have w8 := hb.1
  have hp := pg_ok hw hwd
  have hpl := hb.2.2.2.1 w hwd
  have hs := enc_small hp hpl
  have e2 : (K 2 w).toInt64 = lN (enc (lc a (34 + 13 * w)) (a (34 + 13 * w))) := by rw [hK.2.2.1 w hwd, nI_l (by omega)]
  have hlen := f_lenE (N := N) hp hpl hN
  have v0 := V_wordP (N := N) hR hwd (j := 0) (by decide) hN
  have v1 := V_wordP (N := N) hR hwd (j := 1) (by decide) hN
  have v2 := V_wordP (N := N) hR hwd (j := 2) (by decide) hN
  have v3 := V_wordP (N := N) hR hwd (j := 3) (by decide) hN
  have v4 := V_wordP (N := N) hR hwd (j := 4) (by decide) hN
  have v5 := V_wordP (N := N) hR hwd (j := 5) (by decide) hN
  have v6 := V_wordP (N := N) hR hwd (j := 6) (by decide) hN
  have v7 := V_wordP (N := N) hR hwd (j := 7) (by decide) hN
  have v8 := V_wordP (N := N) hR hwd (j := 8) (by decide) hN
  have v9 := V_wordP (N := N) hR hwd (j := 9) (by decide) hN
  simp (config := { decide := true }) only [↓reduceIte] at v0 v1 v2 v3 v4 v5 v6 v7 v8 v9
  rw [i_2, i_6, i_7, i_8, i_9]
  rw [jn_eq, if_neg (by rw [q_nT]; exact not_false), v0, ob, q_gIn (by omega) (by decide), e2, hlen, ob, if_pos rfl, v1, ob, if_pos rfl, v2, ob, if_pos rfl, v3, ob]
  cases z : hid a w with
  | true =>
    obtain ⟨u1, u2, u3, u4, u5⟩ := ul_ok hb (of_decide_eq_true z : fo a w < sF a)
    have hge : (nI 0 ≤ nI (ul a (fo a w))) = True := q_nn (by omega)
    rw [z] at v4 v5 v8 v9
    simp only [↓reduceIte] at v4 v5 v8 v9 ⊢
    rw [fm_t z]
    refine (jp1 (x := nI 1) (fun j2 => ?_)).trans ?_
    · rw [if_pos (by rw [hge]; trivial)]
    rw [if_pos rfl, v4, ob]
    refine (jp1 (x := nI (fo a w / (a 2 + 1))) (fun j2 => ?_)).trans ?_
    · rw [if_pos (by rw [hge]; trivial), q_nz (by decide) (by decide), q_div (by omega) (by decide) (by decide), u4]
    rw [if_pos rfl, v5, ob]
    refine (jp1 (x := nI (fo a w % (a 2 + 1)) - nI 1) (fun j2 => ?_)).trans ?_
    · rw [if_pos (by rw [hge]; trivial), q_nz (by decide) (by decide), q_rem (by omega) (by decide) (by decide), u5]
    rw [if_pos rfl, v6, ob, if_pos h85.symm, v7, ob, if_pos h86.symm, v8, ob]
    refine (jp1 (x := nI (nuM a (a 3) (a 4) (sA a w))) (fun j2 => ?_)).trans ?_
    · rw [if_pos (by rw [hge]; trivial)]
    rw [if_pos rfl, v9, ob]
    refine (jp1 (x := nI (pop (nuM a (a 3) (a 4) (sA a w)))) (fun j2 => ?_)).trans ?_
    · rw [if_pos (by rw [hge]; trivial), f_ones (nuM_256 hw) hN, ob]
    rw [if_pos rfl]
  | false =>
    rw [z] at v4 v5 v8 v9
    simp only [Bool.false_eq_true, ↓reduceIte] at v4 v5 v8 v9 ⊢
    rw [fm_f z]
    refine (jp1 (x := nI 0) (fun j2 => ?_)).trans ?_
    · rw [if_neg (by rw [q_le1n]; exact not_false)]
    rw [if_pos rfl, v4, ob]
    refine (jp1 (x := (-14 : Int32)) (fun j2 => ?_)).trans ?_
    · rw [if_neg (by rw [q_le1n]; exact not_false)]
    rw [if_pos rfl, v5, ob]
    refine (jp1 (x := (-14 : Int32)) (fun j2 => ?_)).trans ?_
    · rw [if_neg (by rw [q_le1n]; exact not_false)]
    rw [if_pos rfl, v6, ob, if_pos h85.symm, v7, ob, if_pos h86.symm, v8, ob]
    refine (jp1 (x := (-14 : Int32)) (fun j2 => ?_)).trans ?_
    · rw [if_neg (by rw [q_le1n]; exact not_false)]
    rw [if_pos rfl, v9, ob]
    refine (jp1 (x := (-14 : Int32)) (fun j2 => ?_)).trans ?_
    · rw [if_neg (by rw [q_le1n]; exact not_false)]
    rw [if_pos rfl]
end IS
