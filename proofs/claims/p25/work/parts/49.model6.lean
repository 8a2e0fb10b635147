/-! ===== the reference's sums over its page ===== -/
def hid (a : kA) (w : Nat) : Bool := decide (fo a w < sF a)
def nuM (a : kA) (m st v : Nat) : Nat := nu (bw a m st) (a 2 + 1) v (sF a)
def sumN (f : Nat → Nat) : Nat → Nat
  | 0 => 0
  | n + 1 => sumN f n + f n
def frs (a : kA) (m st w : Nat) : Bool := hid a w && allB (fun k => !(hid a k && decide (sh a m st k = sh a m st w))) w
def tm (a : kA) (m st what w : Nat) : Nat := if what = 12 then sh a m st w else if hid a w = true then (if what = 1 then 1 else if what = 11 then (if pop (nuM a m st (sh a m st w)) = 1 then 1 else 0) else if what = 13 then sh a m st w - fw a (fo a w) else if frs a m st w = true then 1 else 0) else 0
def few (a : kA) (m st : Nat) : Nat → Nat
  | 0 => 8
  | w + 1 => if few a m st w ≤ (if hid a w = true then pop (nuM a m st (sh a m st w)) else 8) then few a m st w else (if hid a w = true then pop (nuM a m st (sh a m st w)) else 8)
theorem few_le (a : kA) (m st : Nat) : ∀ w, few a m st w ≤ 8
  | 0 => Nat.le_refl 8
  | w + 1 => by
    have h := few_le a m st w
    rw [few]
    by_cases z : few a m st w ≤ (if hid a w = true then pop (nuM a m st (sh a m st w)) else 8)
    · rw [if_pos z]
      exact h
    · rw [if_neg z]
      omega
theorem lf_rk {a : kA} {x y : Nat} (hy : y < sF a) (h : rk a x ≤ rk a y) : fw a x ≤ fw a y := by
  rcases Nat.lt_or_ge (fw a y) (fw a x) with q | q
  · have h2 := rk_mono (a := a) (x := y) (y := x) hy (Or.inl q)
    omega
  · exact q
theorem eog_ge {a : kA} (hw : WF a) {r : Nat} (hr : r < sF a) : r ≤ eog a r := by
  obtain ⟨w0, w1, w2, w3, w4, w5, w6, w7, wl, wp, wn, we⟩ := hw
  unfold eog
  split
  · have h1 := Nat.div_add_mod r (a 5)
    have h2 := Nat.mod_lt r (show 0 < a 5 by omega)
    rw [Nat.mul_comm] at h1
    omega
  · omega
theorem bw_ge {a : kA} (hw : WF a) {m st f : Nat} (hst : 1 ≤ st) (hf : f < sF a) : fw a f ≤ bw a m st f := by
  unfold bw
  split
  · have h1 := Nat.div_add_mod (fw a f + st - 1) st
    have h2 := Nat.mod_lt (fw a f + st - 1) (show 0 < st by omega)
    rw [Nat.mul_comm] at h1
    omega
  · split
    · have h1 := srt_ok (a := a) (eog_lt hw (rk_lt hf))
      have h2 := eog_ge hw (rk_lt hf)
      exact lf_rk h1.1 (by omega)
    · split
      · have h1 := srt_ok (a := a) (show sF a - 1 < sF a by omega)
        have h2 := rk_lt hf
        exact lf_rk h1.1 (by omega)
      · exact Nat.le_refl _
section MM6
variable {M : kS} {a : kA} {N m st : Nat}
theorem fq8 (hw : WF a) {f : Nat} (hf : f < sF a) : f / (a 2 + 1) < 8 := by
  have h1 := fq hf
  have h2 := hw.2.1
  omega
theorem nuM_256 (hw : WF a) {v : Nat} : nuM a m st v < 256 := nu_256 (fun _ hf => fq8 hw hf)
theorem m_nu (h : SM M a) (hw : WF a) (hD : LD M a m st) (hst : 1 ≤ st ∧ st ≤ 50) {v : Nat} (hv : v ≤ 1000) (hN : 3000 ≤ N) : f_X9_namesUnder N M (nI v) = some (nI (nuM a m st v)) := by
  obtain ⟨w0, w1, w2, w3, w4, w5, w6, w7, wl, wp, wn, we⟩ := id hw
  have hle := sF_le hw
  unfold f_X9_namesUnder
  obtain ⟨n, e⟩ := lpF (fun n i (x : Int32) => lp_X9_namesUnder_4 N M (nI v) (fun x1 => some x1) n x (nI i)) (fun i => nI (nu (bw a m st) (a 2 + 1) v i)) (sF a) (fun n f hf => by
    have h8 := fq8 hw hf
    have hb := bw_le hw (m := m) hst hf
    have h6 := nu_256 (b := bw a m st) (e := a 2 + 1) (v := v) (n := f) (fun g hg => fq8 hw (by omega))
    show lp_X9_namesUnder_4 N M (nI v) (fun x1 => some x1) (n + 1) (nI _) (nI f) = lp_X9_namesUnder_4 N M (nI v) (fun x1 => some x1) n (nI (nu _ _ _ (f + 1))) (nI (f + 1))
    rw [lp_X9_namesUnder_4, nu]
    simp (disch := omega) only [hD.1, q_le, if_neg, q_gIn, q_cl, hD.2.2.1 f, m_each h, ob, q_nz, q_div, jn]
    by_cases z : bw a m st f = v
    · simp (disch := omega) only [z, if_true, nI_bit, i_1, nI_add]
      rw [← i_1, nI_bit _ h8, nI_or h6 (bit_256 h8)]
    · simp (disch := omega) only [z, if_false, q_eq, i_0, i_1, nI_add]
      rw [nI_or h6 (show 0 < 256 by decide), Nat.or_zero]) (N := N) 0 (Nat.zero_le _) (by omega)
  simp only [jn, i_0]
  refine e.trans ?_
  show lp_X9_namesUnder_4 N M (nI v) (fun x1 => some x1) (n + 1) (nI _) (nI (sF a)) = _
  rw [lp_X9_namesUnder_4]
  simp (disch := omega) only [hD.1, q_le, Nat.le_refl, if_true]
  rfl
theorem foV_t (w : Nat) (h : hid a w = true) : foV a w = nI (fo a w) ∧ fo a w < sF a := by
  have h1 : fo a w < sF a := of_decide_eq_true h
  exact ⟨by unfold foV; rw [if_pos h1], h1⟩
theorem foV_f (w : Nat) (h : hid a w = false) : foV a w = -nI 1 := by
  have h1 : ¬ fo a w < sF a := of_decide_eq_false h
  unfold foV
  rw [if_neg h1, i_m1]
theorem q_le1n : (nI 0 ≤ -nI 1) = False := by simp; decide
theorem q_lt1n : (-nI 1 < nI 0) = True := by simp; decide
theorem sh_t (w : Nat) (h : hid a w = true) : sh a m st w = bw a m st (fo a w) := by
  unfold sh
  rw [if_pos (foV_t w h).2]
theorem sh_f (w : Nat) (h : hid a w = false) : sh a m st w = wd a (34 + 13 * w) := by
  unfold sh
  rw [if_neg (of_decide_eq_false h)]
theorem m_few (h : SM M a) (hw : WF a) (hD : LD M a m st) (hst : 1 ≤ st ∧ st ≤ 50) (hN : 3000 ≤ N) : f_X9_fewest N M = some (nI (few a m st (a 0))) := by
  obtain ⟨w0, w1, w2, w3, w4, w5, w6, w7, wl, wp, wn, we⟩ := id hw
  have hle := sF_le hw
  unfold f_X9_fewest
  obtain ⟨n, e⟩ := lpF (fun n i (x : Int32) => lp_X9_fewest_5 N M (fun x1 => some x1) n x (nI i)) (fun i => nI (few a m st i)) (a 0) (fun n w hwd => by
    obtain ⟨d1, d2, d3, d4⟩ := hD.2.2.2.2 w hwd
    have hs := sh_le hw (m := m) hst hwd
    have hf8 := few_le a m st w
    show lp_X9_fewest_5 N M (fun x1 => some x1) (n + 1) (nI _) (nI w) = lp_X9_fewest_5 N M (fun x1 => some x1) n (nI (few _ _ _ (w + 1))) (nI (w + 1))
    rw [lp_X9_fewest_5, few]
    simp (disch := omega) only [i_0, q_gIn, q_cl, h _, q_le, if_neg, d1, d2, m_nu h hw hD hst, ob, m_bits (nuM_256 hw), jn]
    cases z : hid a w with
    | true =>
      obtain ⟨z1, z2⟩ := foV_t w z
      have hp := pop_le (nuM a m st (sh a m st w))
      simp (disch := omega) only [z1, q_le, Nat.zero_le, if_true, i_1, nI_add]
      by_cases y : few a m st w ≤ pop (nuM a m st (sh a m st w))
      · rw [if_pos y, if_pos y]
      · rw [if_neg y, if_neg y]
    | false =>
      simp (disch := omega) only [foV_f w z, q_le1n, if_false, i_8, i_1, q_le, nI_add, Bool.false_eq_true]
      by_cases y : few a m st w ≤ 8
      · rw [if_pos y, if_pos y]
      · rw [if_neg y, if_neg y]) (N := N) 0 (Nat.zero_le _) (by omega)
  simp only [jn, i_0, i_8]
  refine e.trans ?_
  show lp_X9_fewest_5 N M (fun x1 => some x1) (n + 1) (nI _) (nI (a 0)) = _
  rw [lp_X9_fewest_5]
  simp (disch := omega) only [i_0, q_gIn, q_cl, h _, q_le, Nat.le_refl, if_true]
/-- a row of tests on the words ahead -/
theorem m_frs (hD : LD M a m st) (hw : WF a) (hst : 1 ≤ st ∧ st ≤ 50) {w : Nat} (hwd : w < a 0) (kont : Int32 → Option Int32) (hN : 3000 ≤ N) : lp_X9_sumOf_37 N M (nI w) kont N (nI (if hid a w = true then 1 else 0)) (nI 0) = kont (nI (if frs a m st w = true then 1 else 0)) := by
  obtain ⟨w0, w1, w2, w3, w4, w5, w6, w7, wl, wp, wn, we⟩ := id hw
  obtain ⟨n, e⟩ := lpF (fun n i (x : Int32) => lp_X9_sumOf_37 N M (nI w) kont n x (nI i)) (fun i => nI (if (hid a w && allB (fun k => !(hid a k && decide (sh a m st k = sh a m st w))) i) = true then 1 else 0)) w (fun n k hk => by
    obtain ⟨d1, d2, d3, d4⟩ := hD.2.2.2.2 k (by omega)
    obtain ⟨c1, c2, c3, c4⟩ := hD.2.2.2.2 w hwd
    have hs := sh_le hw (m := m) hst hwd
    have hs2 := sh_le hw (m := m) (w := k) hst (by omega)
    show lp_X9_sumOf_37 N M (nI w) kont (n + 1) (nI _) (nI k) = lp_X9_sumOf_37 N M (nI w) kont n (nI _) (nI (k + 1))
    rw [lp_X9_sumOf_37, allB]
    generalize hT : (hid a w && allB (fun k => !(hid a k && decide (sh a m st k = sh a m st w))) k) = T
    have hT2 : (hid a w && (allB (fun k => !(hid a k && decide (sh a m st k = sh a m st w))) k && !(hid a k && decide (sh a m st k = sh a m st w)))) = (T && !(hid a k && decide (sh a m st k = sh a m st w))) := by rw [← hT, Bool.and_assoc]
    rw [hT2]
    cases T with
    | false => simp (disch := omega) only [q_le, if_neg, jn, i_0, i_1, if_true, if_false, Bool.false_and, Bool.false_eq_true, nI_add]
    | true =>
      simp (disch := omega) only [q_le, if_neg, jn, i_0, i_1, q_nT, if_true, if_false, Bool.true_and, nI_add, q_gIn, q_cl, d1, d2, c2, q_eq]
      cases z : hid a k with
      | true =>
        obtain ⟨z1, z2⟩ := foV_t k z
        have hle := sF_le hw
        simp (disch := omega) only [z1, q_lt, Nat.not_lt_zero, if_false, Bool.true_and]
        by_cases y : sh a m st k = sh a m st w
        · simp [y]
        · simp [y]
      | false =>
        simp (disch := omega) only [foV_f k z, q_lt1n, if_true, Bool.false_and, Bool.not_false]) (N := N) 0 (Nat.zero_le _) (by omega)
  refine Eq.trans ?_ (e.trans ?_)
  · simp only [allB, Bool.and_true]
  · show lp_X9_sumOf_37 N M (nI w) kont (n + 1) (nI _) (nI w) = _
    rw [lp_X9_sumOf_37]
    simp (disch := omega) only [q_le, Nat.le_refl, if_true]
    rfl
theorem tm_le (hw : WF a) (hst : 1 ≤ st ∧ st ≤ 50) {what w : Nat} (hwd : w < a 0) : tm a m st what w ≤ 148 := by
  have h := sh_le hw (m := m) hst hwd
  unfold tm
  repeat' split
  all_goals omega
theorem sumN_le {f : Nat → Nat} {b n : Nat} (h : ∀ w, w < n → f w ≤ b) : ∀ i, i ≤ n → sumN f i ≤ b * i
  | 0, _ => Nat.zero_le _
  | i + 1, hi => by
    have h1 := sumN_le h i (by omega)
    have h2 := h i (by omega)
    rw [sumN, Nat.mul_succ]
    omega
theorem m_sumOf (h : SM M a) (hw : WF a) (hD : LD M a m st) (hst : 1 ≤ st ∧ st ≤ 50) {what : Nat} (hwt : what ≤ 100) (hN : 3000 ≤ N) : f_X9_sumOf N M (nI what) = some (nI (sumN (tm a m st what) (a 0))) := by
  obtain ⟨w0, w1, w2, w3, w4, w5, w6, w7, wl, wp, wn, we⟩ := id hw
  have hle := sF_le hw
  unfold f_X9_sumOf
  obtain ⟨n, e⟩ := lpF (fun n i (x : Int32) => lp_X9_sumOf_4 N M (nI what) (fun x1 => some x1) n x (nI i)) (fun i => nI (sumN (tm a m st what) i)) (a 0) (fun n w hwd => by
    obtain ⟨d1, d2, d3, d4⟩ := hD.2.2.2.2 w hwd
    have hs := sh_le hw (m := m) hst hwd
    have hfr := fun kont => m_frs hD hw hst hwd kont hN
    show lp_X9_sumOf_4 N M (nI what) (fun x1 => some x1) (n + 1) (nI _) (nI w) = lp_X9_sumOf_4 N M (nI what) (fun x1 => some x1) n (nI (sumN _ (w + 1))) (nI (w + 1))
    rw [lp_X9_sumOf_4, sumN]
    have hstep : nI w + nI 1 = nI (w + 1) := nI_add w 1
    cases z : hid a w with
    | true =>
      obtain ⟨z1, z2⟩ := foV_t w z
      have hb := bw_ge hw (m := m) hst.1 z2
      have hp := pop_le (nuM a m st (sh a m st w))
      rw [← sh_t w z] at hb
      rw [z, if_pos rfl] at hfr
      by_cases y12 : what = 12
      · simp (disch := omega) only [i_0, i_12, i_11, i_13, q_gIn, q_cl, h _, q_le, d1, d2, ↓jn_eq, ↓reduceIte, i_1, q_eq, z1, q_lt, Nat.not_lt_zero, hfr, y12, tm, nI_add, Nat.reduceEqDiff, q_nT, Nat.not_le.mpr hwd, ite_self]
      · by_cases y1 : what = 1
        · simp (disch := omega) only [i_0, i_12, i_11, i_13, q_gIn, q_cl, h _, q_le, d1, d2, ↓jn_eq, ↓reduceIte, i_1, q_eq, z1, q_lt, Nat.not_lt_zero, hfr, y1, tm, nI_add, Nat.reduceEqDiff, q_nT, z, Nat.not_le.mpr hwd]
        · by_cases y11 : what = 11
          · simp (disch := omega) only [i_0, i_12, i_11, i_13, q_gIn, q_cl, h _, q_le, d1, d2, ↓jn_eq, ↓reduceIte, i_1, q_eq, z1, q_lt, Nat.not_lt_zero, hfr, y11, tm, nI_add, Nat.reduceEqDiff, q_nT, z, Nat.not_le.mpr hwd, m_nu h hw hD hst, ob, m_bits (nuM_256 hw)]
            by_cases yp : pop (nuM a m st (sh a m st w)) = 1
            · simp only [yp, ↓reduceIte]
            · simp only [yp, ↓reduceIte]
          · by_cases y13 : what = 13
            · simp (disch := omega) only [i_0, i_12, i_11, i_13, q_gIn, q_cl, h _, q_le, d1, d2, ↓jn_eq, ↓reduceIte, i_1, q_eq, z1, q_lt, Nat.not_lt_zero, hfr, y13, tm, nI_add, Nat.reduceEqDiff, q_nT, z, Nat.not_le.mpr hwd, hD.2.1 (fo a w), q_sub]
            · by_cases yf : frs a m st w = true
              · simp (disch := omega) only [i_0, i_12, i_11, i_13, q_gIn, q_cl, h _, q_le, d1, d2, ↓jn_eq, ↓reduceIte, i_1, q_eq, z1, q_lt, Nat.not_lt_zero, hfr, y13, y12, y11, y1, yf, tm, nI_add, z, Nat.not_le.mpr hwd, Nat.one_ne_zero, Bool.false_eq_true]
              · simp (disch := omega) only [i_0, i_12, i_11, i_13, q_gIn, q_cl, h _, q_le, d1, d2, ↓jn_eq, ↓reduceIte, i_1, q_eq, z1, q_lt, Nat.not_lt_zero, hfr, y13, y12, y11, y1, yf, tm, nI_add, z, Nat.not_le.mpr hwd, Nat.one_ne_zero, Bool.false_eq_true]
    | false =>
      have hff : frs a m st w = false := by unfold frs; rw [z, Bool.false_and]
      rw [z, if_neg (by decide), hff, if_neg (by decide)] at hfr
      by_cases y12 : what = 12
      · simp (disch := omega) only [i_0, i_12, i_11, i_13, q_gIn, q_cl, h _, q_le, d1, d2, ↓jn_eq, ↓reduceIte, i_1, q_eq, foV_f w z, q_lt1n, hfr, y12, tm, nI_add, Nat.reduceEqDiff, Nat.not_le.mpr hwd]
      · by_cases y1 : what = 1
        · simp (disch := omega) only [i_0, i_12, i_11, i_13, q_gIn, q_cl, h _, q_le, d1, d2, ↓jn_eq, ↓reduceIte, i_1, q_eq, foV_f w z, q_lt1n, hfr, y1, tm, nI_add, Nat.reduceEqDiff, Nat.not_le.mpr hwd, z, Bool.false_eq_true]
        · by_cases y11 : what = 11
          · simp (disch := omega) only [i_0, i_12, i_11, i_13, q_gIn, q_cl, h _, q_le, d1, d2, ↓jn_eq, ↓reduceIte, i_1, q_eq, foV_f w z, q_lt1n, hfr, y11, tm, nI_add, Nat.reduceEqDiff, Nat.not_le.mpr hwd, z, Bool.false_eq_true]
          · by_cases y13 : what = 13
            · simp (disch := omega) only [i_0, i_12, i_11, i_13, q_gIn, q_cl, h _, q_le, d1, d2, ↓jn_eq, ↓reduceIte, i_1, q_eq, foV_f w z, q_lt1n, hfr, y13, tm, nI_add, Nat.reduceEqDiff, Nat.not_le.mpr hwd, z, Bool.false_eq_true]
            · simp (disch := omega) only [i_0, i_12, i_11, i_13, q_gIn, q_cl, h _, q_le, d1, d2, ↓jn_eq, ↓reduceIte, i_1, q_eq, foV_f w z, q_lt1n, hfr, y13, y12, y11, y1, tm, nI_add, Nat.not_le.mpr hwd, z, Bool.false_eq_true]) (N := N) 0 (Nat.zero_le _) (by omega)
  simp only [jn, i_0]
  refine e.trans ?_
  show lp_X9_sumOf_4 N M (nI what) (fun x1 => some x1) (n + 1) (nI _) (nI (a 0)) = _
  rw [lp_X9_sumOf_4]
  simp (disch := omega) only [i_0, q_gIn, q_cl, h _, q_le, Nat.le_refl, if_true]
end MM6
