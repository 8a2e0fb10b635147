/-! ===== the reference's lines ===== -/
theorem bw_le {a : kA} (hw : WF a) {m st f : Nat} (hst : 1 ≤ st ∧ st ≤ 50) (hf : f < sF a) : bw a m st f ≤ 148 := by
  have h1 := fw_le hw hf
  have h2 := Nat.div_mul_le_self (fw a f + st - 1) st
  have h3 := (srt_ok (a := a) (eog_lt hw (rk_lt hf))).1
  have h4 := (srt_ok (a := a) (show sF a - 1 < sF a by omega)).1
  have h5 := fw_le hw h3
  have h6 := fw_le hw h4
  unfold bw
  split
  · omega
  · split
    · omega
    · split <;> omega
theorem wdw_le {a : kA} (hw : WF a) {w : Nat} (h : w < a 0) : wd a (34 + 13 * w) ≤ 108 := by
  obtain ⟨w0, w1, w2, w3, w4, w5, w6, w7, wl, wp, wn, we⟩ := hw
  have h1 := (wp w h).1.2
  have h2 := wd_le wl (wp w h).2
  omega
theorem sh_le {a : kA} (hw : WF a) {m st w : Nat} (hst : 1 ≤ st ∧ st ≤ 50) (h : w < a 0) : sh a m st w ≤ 148 := by
  unfold sh
  split
  · rename_i q
    exact bw_le hw hst q
  · have := wdw_le hw h
    omega
theorem ly_b {s : Nat → Nat} {gp lw n : Nat} (hs : ∀ w, w < n → s w ≤ 148) (hg : gp ≤ 9) (hl : lw ≤ 200) : ∀ w, w ≤ n → (ly s gp lw w).1 ≤ w ∧ (ly s gp lw w).2 ≤ 400
  | 0, _ => ⟨Nat.le_refl 0, Nat.zero_le _⟩
  | w + 1, h => by
    have h1 := ly_b hs hg hl w (by omega)
    have h2 := hs w (by omega)
    rw [ly]
    split
    · simp; omega
    · rename_i q
      simp; omega
theorem ly_p {s : Nat → Nat} {gp lw : Nat} : ∀ w, 1 ≤ (ly s gp lw (w + 1)).1
  | 0 => by rw [ly]; simp
  | w + 1 => by
    have h1 := ly_p (s := s) (gp := gp) (lw := lw) w
    rw [ly]
    split
    · simp
    · exact h1
def foV (a : kA) (w : Nat) : Int32 := if fo a w < sF a then nI (fo a w) else -1
theorem q_an (k : Nat) : nI k + -nI 1 = nI k - nI 1 := (Int32.sub_eq_add_neg _ _).symm
theorem q_neg1 : (nI 0 - nI 1 < nI 0) = True := by simp; decide
theorem i_m1 : (-1 : Int32) = -nI 1 := by decide
theorem jn_eq {α β : Type} (k : α) (f : α → β) : jn k f = f k := rfl
theorem q_le1 : (nI 0 ≤ (-1 : Int32)) = False := by simp; decide
section MM5
variable {M : kS} {a : kA} {N : Nat}
theorem m_lays_in (hw : WF a) {w : Nat} (hwd : w < a 0) (hN : 3000 ≤ N) : ∀ (k n : Nat) (C : kS), k < n → k ≤ sF a → SM C a → ((C 7 w = -1 ∧ ∀ f, k ≤ f → f < sF a → isF a w f = false) ∨ ∃ f, k ≤ f ∧ f < sF a ∧ C 7 w = nI f ∧ isF a w f = true ∧ ∀ g, k ≤ g → g < f → isF a w g = false) → ∃ C', (∀ j, j ≠ 7 → C' j = C j) ∧ (∀ i, i ≠ w → C' 7 i = C 7 i) ∧ C' 7 w = foV a w ∧ ∀ kont : kS → Option kS, lp_X9_lays_43 N (nI w) kont n (nI k - nI 1) C = kont C' := by
  obtain ⟨w0, w1, w2, w3, w4, w5, w6, w7, wl, wp, wn, we⟩ := id hw
  have hle := sF_le hw
  intro k
  induction k with
  | zero =>
    intro n C hn hk hC hI
    obtain ⟨n, rfl⟩ : ∃ n', n = n' + 1 := ⟨n - 1, by omega⟩
    refine ⟨C, fun _ _ => rfl, fun _ _ => rfl, ?_, fun kont => ?_⟩
    · unfold foV fo
      rcases hI with ⟨h1, h2⟩ | ⟨f, _, h1, h2, h3, h4⟩
      · rw [fst_none (fun j hj => h2 j (Nat.zero_le _) hj), if_neg (Nat.lt_irrefl _)]
        exact h1
      · rw [fst_uniq h1 h3 (fun j hj => h4 j (Nat.zero_le _) hj), if_pos h1]
        exact h2
    · rw [lp_X9_lays_43]
      simp (disch := omega) only [i_0, q_neg1, if_true]
  | succ k ih =>
    intro n C hn hk hC hI
    obtain ⟨n, rfl⟩ : ∃ n', n = n' + 1 := ⟨n - 1, by omega⟩
    by_cases z : isF a w k = true
    · obtain ⟨C', b1, b2, b3, e⟩ := ih n (up1 C 7 (upd (C 7) w (nI k))) (by omega) (by omega) (fun i hi => by rw [up1_n (by decide)]; exact hC i hi) (Or.inr ⟨k, Nat.le_refl _, by omega, by rw [up1_s, pk_us], z, fun g h1 h2 => by omega⟩)
      refine ⟨C', fun j hj => by rw [b1 j hj, up1_n hj], fun i hi => by rw [b2 i hi, up1_s, pk_un hi], b3, fun kont => ?_⟩
      rw [← e kont, lp_X9_lays_43]
      simp (disch := omega) only [q_sub, Nat.add_sub_cancel, i_0, q_lt, Nat.not_lt_zero, if_false, m_isForm hC hw hwd (f := k) (by omega) hN, z, if_true, ob, q_nT, jn, q_gIn, q_cl, i_1, q_an]
    · have z2 : isF a w k = false := by simpa using z
      obtain ⟨C', b1, b2, b3, e⟩ := ih n (up1 C 7 (upd (C 7) w (C 7 w))) (by omega) (by omega) (fun i hi => by rw [up1_n (by decide)]; exact hC i hi) (by
        rw [up1_s, pk_us]
        rcases hI with ⟨h1, h2⟩ | ⟨f, h0, h1, h2, h3, h4⟩
        · refine Or.inl ⟨h1, fun f h5 h6 => ?_⟩
          rcases Nat.lt_or_ge k f with q | q
          · exact h2 f q h6
          · have e : f = k := by omega
            rw [e]
            exact z2
        · refine Or.inr ⟨f, by omega, h1, h2, h3, fun g h5 h6 => ?_⟩
          rcases Nat.lt_or_ge k g with q | q
          · exact h4 g q h6
          · have e : g = k := by omega
            rw [e]
            exact z2)
      refine ⟨C', fun j hj => by rw [b1 j hj, up1_n hj], fun i hi => by rw [b2 i hi, up1_s, pk_un hi], b3, fun kont => ?_⟩
      rw [← e kont, lp_X9_lays_43]
      simp (disch := omega) only [q_sub, Nat.add_sub_cancel, i_0, q_lt, Nat.not_lt_zero, if_false, m_isForm hC hw hwd (f := k) (by omega) hN, z2, if_true, ob, jn, q_gIn, q_cl, i_1, q_an, Bool.false_eq_true]
/-- what the reference knows of its page behind 'lays' -/
def LD (M : kS) (a : kA) (m st : Nat) : Prop := M 0 9 = nI (sF a) ∧ (∀ f, f < sF a → M 4 f = nI (fw a f)) ∧ (∀ f, f < sF a → M 5 f = nI (bw a m st f)) ∧ M 0 14 = nI (ly (sh a m st) (a 6) (a 7) (a 0)).1 ∧ ∀ w, w < a 0 → M 7 w = foV a w ∧ M 8 w = nI (sh a m st w) ∧ M 9 w = nI (lno (sh a m st) (a 6) (a 7) w) ∧ M 10 w = nI (plc (sh a m st) (a 6) (a 7) w)
theorem m_lays (h : SM M a) (hw : WF a) {m st : Nat} (hm : m ≤ 3) (hst : 1 ≤ st ∧ st ≤ 50) (hN : 3000 ≤ N) : ∃ M', f_X9_lays N M (nI m) (nI st) = some M' ∧ AgM M M' ∧ LD M' a m st := by
  obtain ⟨w0, w1, w2, w3, w4, w5, w6, w7, wl, wp, wn, we⟩ := id hw
  have hle := sF_le hw
  obtain ⟨M2, eb, hA2, hF2, h42, h52⟩ := m_bars h hw hm hst hN
  have hS2 := hA2.sm h
  have hsh : ∀ w, w < a 0 → sh a m st w ≤ 148 := fun w hwd => sh_le hw hst hwd
  have hly := ly_b (s := sh a m st) (gp := a 6) (lw := a 7) hsh (by omega) (by omega)
  unfold f_X9_lays
  rw [eb, ob]
  simp only [jn, i_0]
  obtain ⟨⟨x, C⟩, n, ⟨hC, hC0, h14, hx, hwv⟩, e⟩ := lpN (fun n i (y : Int32 × kS) => lp_X9_lays_16 N (fun C4 => some C4) n y.1 (nI i) y.2) (fun w y => (∀ j, j ≠ 0 → j ≠ 7 → j ≠ 8 → j ≠ 9 → j ≠ 10 → y.2 j = M2 j) ∧ (∀ j, j ≠ 14 → y.2 0 j = M2 0 j) ∧ y.2 0 14 = nI (ly (sh a m st) (a 6) (a 7) w).1 ∧ y.1 = nI (ly (sh a m st) (a 6) (a 7) w).2 ∧ ∀ v, v < w → y.2 7 v = foV a v ∧ y.2 8 v = nI (sh a m st v) ∧ y.2 9 v = nI (lno (sh a m st) (a 6) (a 7) v) ∧ y.2 10 v = nI (plc (sh a m st) (a 6) (a 7) v)) (a 0) (fun n w y hwd hI => by
    obtain ⟨x, C⟩ := y
    obtain ⟨hC, hC0, h14, hx, hwv⟩ := hI
    simp only at hC hC0 h14 hx hwv
    subst hx
    have hSC : SM C a := fun i hi => by rw [hC 1 (by decide) (by decide) (by decide) (by decide) (by decide)]; exact hS2 i hi
    have e09 : C 0 9 = nI (sF a) := by rw [hC0 9 (by decide)]; exact hF2
    have e5 : C 5 = M2 5 := hC 5 (by decide) (by decide) (by decide) (by decide) (by decide)
    have l1 := hly w (by omega)
    have l2 := hly (w + 1) (by omega)
    have s1 := hsh w hwd
    obtain ⟨C1, b1, b2, b3, e1⟩ := m_lays_in (N := N) hw hwd hN (sF a) N (up1 C 7 (upd (C 7) w (-1))) (by omega) (Nat.le_refl _) (fun i hi => by rw [up1_n (by decide)]; exact hSC i hi) (Or.inl ⟨by rw [up1_s, pk_us], fun f h1 h2 => by omega⟩)
    have hS1 : SM C1 a := fun i hi => by rw [b1 1 (by decide), up1_n (by decide)]; exact hSC i hi
    have g0 : C1 0 = C 0 := by rw [b1 0 (by decide), up1_n (by decide)]
    have g5 : C1 5 = M2 5 := by rw [b1 5 (by decide), up1_n (by decide)]; exact e5
    have hp0 := ly_p (s := sh a m st) (gp := a 6) (lw := a 7) w
    have g014 : C1 0 14 = nI (ly (sh a m st) (a 6) (a 7) w).1 := by rw [g0]; exact h14
    have e1' : ∀ kont : kS → Option kS, lp_X9_lays_43 N (nI w) kont N (nI (sF a) - 1) (up1 C 7 (upd (C 7) w (-1))) = kont C1 := fun kont => by simpa only [i_1] using e1 kont
    have hup9 : (up1 C 7 (upd (C 7) w (-1))) 0 9 = nI (sF a) := by rw [up1_n (by decide)]; exact e09
    -- the word's shown width comes, whatever it is
    have hT : ∀ T : Int32 → Option kS, jn T (fun j127 => if nI 0 ≤ C1 7 w then gIn (C1 7 w) 40 (j127 (C1 5 (C1 7 w).toNatClampNeg)) else (f_X9_widthAt N C1 (34 + 13 * nI w)).bind (fun r40 => j127 r40)) = T (nI (sh a m st w)) := by
      intro T
      rw [jn_eq, b3]
      unfold foV sh
      by_cases z : fo a w < sF a
      · simp (disch := omega) only [z, if_true, q_le, Nat.zero_le, q_gIn, q_cl, g5, h52 (fo a w)]
      · simp (disch := omega) only [z, if_false, q_le1, i_34, i_13, pk_mul, nI_add]
        rw [m_widthAt hS1 wl (p := 34 + 13 * w) (by have := (wp w hwd).1.2; omega) (wp w hwd).2 hN, ob]
    by_cases z : w = 0 ∨ a 7 < (ly (sh a m st) (a 6) (a 7) w).2 + sh a m st w
    · have d1 : ly (sh a m st) (a 6) (a 7) (w + 1) = ((ly (sh a m st) (a 6) (a 7) w).1 + 1, sh a m st w + a 6) := by rw [ly, if_pos z]
      have d2 : plc (sh a m st) (a 6) (a 7) w = 0 := by unfold plc; rw [if_pos z]
      have d3 : lno (sh a m st) (a 6) (a 7) w = (ly (sh a m st) (a 6) (a 7) w).1 := by unfold lno; rw [d1]; rfl
      rw [d1] at l2 hp0
      refine ⟨(nI (sh a m st w + a 6), up1 (up1 (up1 (up1 C1 8 (upd (C1 8) w (nI (sh a m st w)))) 0 (upd (C1 0) 14 (nI ((ly (sh a m st) (a 6) (a 7) w).1 + 1)))) 9 (upd (C1 9) w (nI (ly (sh a m st) (a 6) (a 7) w).1))) 10 (upd (C1 10) w (nI 0))), ⟨fun j h0 h7 h8 h9 h10 => ?_, fun j hj => ?_, ?_, ?_, fun v hv => ?_⟩, ?_⟩
      · show up1 _ 10 _ j = M2 j
        rw [up1_n h10, up1_n h9, up1_n h0, up1_n h8, b1 j h7, up1_n h7]
        exact hC j h0 h7 h8 h9 h10
      · simp only []
        rw [up1_n (show 0 ≠ 10 by decide), up1_n (show 0 ≠ 9 by decide), up1_s, pk_un hj, g0]
        exact hC0 j hj
      · simp only []
        rw [up1_n (show 0 ≠ 10 by decide), up1_n (show 0 ≠ 9 by decide), up1_s, pk_us, d1]
      · show nI (sh a m st w + a 6) = _
        rw [d1]
      · simp only []
        rw [up1_s, up1_n (show 7 ≠ 10 by decide), up1_n (show 7 ≠ 9 by decide), up1_n (show 7 ≠ 0 by decide), up1_n (show 7 ≠ 8 by decide), up1_n (show 8 ≠ 10 by decide), up1_n (show 8 ≠ 9 by decide), up1_n (show 8 ≠ 0 by decide), up1_s, up1_n (show 9 ≠ 10 by decide), up1_s]
        by_cases y : v = w
        · subst y
          rw [pk_us, pk_us, pk_us, b3, d2, d3]
          exact ⟨rfl, rfl, rfl, rfl⟩
        · rw [pk_un y, pk_un y, pk_un y, b2 v y, up1_s, pk_un y, b1 8 (by decide), b1 9 (by decide), b1 10 (by decide), up1_n (by decide), up1_n (by decide), up1_n (by decide)]
          exact hwv v (by omega)
      · show lp_X9_lays_16 N (fun C4 => some C4) (n + 1) (nI (ly (sh a m st) (a 6) (a 7) w).2) (nI w) C = lp_X9_lays_16 N (fun C4 => some C4) n (nI (sh a m st w + a 6)) (nI (w + 1)) _
        rw [lp_X9_lays_16]
        simp (disch := omega) only [i_0, q_gIn, q_cl, hSC _, q_le, if_neg]
        rw [jn_eq, jn_eq, hup9, e1', hT]
        have hc : (if nI w = nI 0 then True else ¬ (ly (sh a m st) (a 6) (a 7) w).2 + sh a m st w ≤ a 7) := by
          by_cases y : w = 0
          · rw [if_pos (by rw [y])]
            trivial
          · rw [if_neg (fun q => y ((nI_eq (by omega) (by omega)).mp q))]
            omega
        by_cases y : w = 0
        · simp (disch := omega) only [jn, up1_s, up1_n, pk_us, i_7, i_6, i_1, q_gIn, q_cl, q_eq, y, if_true, g014, nI_add, q_sub, Nat.add_sub_cancel, Nat.zero_add, hS1 _]
        · have y2 : ¬ (ly (sh a m st) (a 6) (a 7) w).2 + sh a m st w ≤ a 7 := by omega
          simp (disch := omega) only [jn, up1_s, up1_n, pk_us, i_7, i_6, i_1, q_gIn, q_cl, q_eq, y, if_false, g014, nI_add, q_sub, Nat.add_sub_cancel, Nat.zero_add, hS1 _, q_le, y2]
    · have d1 : ly (sh a m st) (a 6) (a 7) (w + 1) = ((ly (sh a m st) (a 6) (a 7) w).1, (ly (sh a m st) (a 6) (a 7) w).2 + (sh a m st w + a 6)) := by rw [ly, if_neg z]
      have d2 : plc (sh a m st) (a 6) (a 7) w = (ly (sh a m st) (a 6) (a 7) w).2 := by unfold plc; rw [if_neg z]
      have d3 : lno (sh a m st) (a 6) (a 7) w = (ly (sh a m st) (a 6) (a 7) w).1 - 1 := by unfold lno; rw [d1]
      rw [d1] at l2 hp0
      simp only at l2 hp0
      refine ⟨(nI ((ly (sh a m st) (a 6) (a 7) w).2 + (sh a m st w + a 6)), up1 (up1 (up1 C1 8 (upd (C1 8) w (nI (sh a m st w)))) 9 (upd (C1 9) w (nI ((ly (sh a m st) (a 6) (a 7) w).1 - 1)))) 10 (upd (C1 10) w (nI (ly (sh a m st) (a 6) (a 7) w).2))), ⟨fun j h0 h7 h8 h9 h10 => ?_, fun j hj => ?_, ?_, ?_, fun v hv => ?_⟩, ?_⟩
      · show up1 _ 10 _ j = M2 j
        rw [up1_n h10, up1_n h9, up1_n h8, b1 j h7, up1_n h7]
        exact hC j h0 h7 h8 h9 h10
      · simp only []
        rw [up1_n (by decide), up1_n (by decide), up1_n (by decide), g0]
        exact hC0 j hj
      · simp only []
        rw [up1_n (by decide), up1_n (by decide), up1_n (by decide), g014, d1]
      · show nI _ = _
        rw [d1]
      · simp only []
        rw [up1_s, up1_n (show 7 ≠ 10 by decide), up1_n (show 7 ≠ 9 by decide), up1_n (show 7 ≠ 8 by decide), up1_n (show 8 ≠ 10 by decide), up1_n (show 8 ≠ 9 by decide), up1_s, up1_n (show 9 ≠ 10 by decide), up1_s]
        by_cases y : v = w
        · subst y
          rw [pk_us, pk_us, pk_us, b3, d2, d3]
          exact ⟨rfl, rfl, rfl, rfl⟩
        · rw [pk_un y, pk_un y, pk_un y, b2 v y, up1_s, pk_un y, b1 8 (by decide), b1 9 (by decide), b1 10 (by decide), up1_n (by decide), up1_n (by decide), up1_n (by decide)]
          exact hwv v (by omega)
      · show lp_X9_lays_16 N (fun C4 => some C4) (n + 1) (nI (ly (sh a m st) (a 6) (a 7) w).2) (nI w) C = lp_X9_lays_16 N (fun C4 => some C4) n (nI ((ly (sh a m st) (a 6) (a 7) w).2 + (sh a m st w + a 6))) (nI (w + 1)) _
        rw [lp_X9_lays_16]
        simp (disch := omega) only [i_0, q_gIn, q_cl, hSC _, q_le, if_neg]
        rw [jn_eq, jn_eq, hup9, e1', hT]
        have y : ¬ w = 0 := fun q => z (Or.inl q)
        have y2 : (ly (sh a m st) (a 6) (a 7) w).2 + sh a m st w ≤ a 7 := by omega
        simp (disch := omega) only [jn, up1_s, up1_n, pk_us, i_7, i_6, i_1, q_gIn, q_cl, q_eq, y, if_false, if_true, g014, nI_add, q_sub, hS1 _, q_le, y2]) (N := N) 0 (nI 0, up1 M2 0 (upd (M2 0) 14 (nI 0))) (Nat.zero_le _) (by omega) ⟨fun j h0 _ _ _ _ => up1_n h0, fun j hj => by show up1 M2 0 (upd (M2 0) 14 (nI 0)) 0 j = M2 0 j; rw [up1_s, pk_un hj], by show up1 M2 0 (upd (M2 0) 14 (nI 0)) 0 14 = _; rw [up1_s, pk_us]; rfl, rfl, fun v hv => absurd hv (Nat.not_lt_zero v)⟩
  simp only at hC hC0 h14 hx hwv
  refine ⟨C, ?_, hA2.tr ⟨hC 1 (by decide) (by decide) (by decide) (by decide) (by decide), hC 2 (by decide) (by decide) (by decide) (by decide) (by decide), hC 3 (by decide) (by decide) (by decide) (by decide) (by decide), hC0 2 (by decide), hC0 4 (by decide), hC0 5 (by decide)⟩, by rw [hC0 9 (by decide)]; exact hF2, fun f hf => by rw [hC 4 (by decide) (by decide) (by decide) (by decide) (by decide)]; exact h42 f hf, fun f hf => by rw [hC 5 (by decide) (by decide) (by decide) (by decide) (by decide)]; exact h52 f hf, h14, hwv⟩
  refine e.trans ?_
  show lp_X9_lays_16 N (fun C4 => some C4) (n + 1) x (nI (a 0)) C = some C
  rw [lp_X9_lays_16]
  have hSC : SM C a := fun i hi => by rw [hC 1 (by decide) (by decide) (by decide) (by decide) (by decide)]; exact hS2 i hi
  simp (disch := omega) only [i_0, q_gIn, q_cl, hSC _, q_le, Nat.le_refl, if_true]
end MM5
