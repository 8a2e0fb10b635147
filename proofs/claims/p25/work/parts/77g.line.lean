/-! ===== lines, word by word ===== -/
abbrev sA (a : kA) : Nat → Nat := sh a (a 3) (a 4)
def LN (a : kA) (w : Nat) : Nat := (ly (sA a) (a 6) (a 7) w).1
def LPw (a : kA) (w : Nat) : Nat := (ly (sA a) (a 6) (a 7) w).2
def nb (a : kA) (w : Nat) : Prop := w = 0 ∨ a 7 < LPw a w + sA a w
def PLc (a : kA) (w : Nat) : Nat := if w = 0 then 0 else LPw a w - a 6
def FSt (a : kA) (w : Nat) : Nat := if w = 0 then 0 else fsL a (a 3) (a 4) (LN a w - 1)
def B4 (a : kA) (w : Nat) : Nat := if w = 0 then 0 else lsum a (a 3) (a 4) (LN a w - 1) 4 w
section LL1
variable {a : kA} {C : kS} {w : Nat}
theorem LN_y (h : nb a w) : LN a (w + 1) = LN a w + 1 ∧ LPw a (w + 1) = sA a w + a 6 := by
  have h2 : w = 0 ∨ a 7 < (ly (sA a) (a 6) (a 7) w).2 + sA a w := h
  unfold LN LPw
  rw [ly, if_pos h2]
  exact ⟨rfl, rfl⟩
theorem LN_n (h : ¬ nb a w) : LN a (w + 1) = LN a w ∧ LPw a (w + 1) = LPw a w + (sA a w + a 6) := by
  have h2 : ¬ (w = 0 ∨ a 7 < (ly (sA a) (a 6) (a 7) w).2 + sA a w) := h
  unfold LN LPw
  rw [ly, if_neg h2]
  exact ⟨rfl, rfl⟩
theorem plc_y (h : nb a w) : plc (sA a) (a 6) (a 7) w = 0 := if_pos h
theorem plc_n (h : ¬ nb a w) : plc (sA a) (a 6) (a 7) w = LPw a w := if_neg h
theorem lno_e : lno (sA a) (a 6) (a 7) w = LN a (w + 1) - 1 := rfl
theorem LN_0 : LN a 0 = 0 := rfl
theorem LN_1 : ∀ {w : Nat}, 0 < w → 1 ≤ LN a w
  | 0, h => absurd h (Nat.lt_irrefl 0)
  | w + 1, _ => ly_p w
theorem LN_le (h : w ≤ a 0) : LN a w ≤ lnN a (a 3) (a 4) := by
  have := ly_mono (s := sA a) (gp := a 6) (lw := a 7) (v := w) (a 0 - w)
  rw [show w + (a 0 - w) = a 0 by omega] at this
  exact this
/-- a new line begins with word w -/
theorem nb_fs (h : nb a w) (hwd : w < a 0) : fsL a (a 3) (a 4) (LN a w) = w ∧ LN a w < lnN a (a 3) (a 4) := by
  have h1 := (LN_y h).1
  refine ⟨fst_uniq hwd (decide_eq_true (by rw [lno_e, h1, Nat.add_sub_cancel])) (fun j hj => decide_eq_false (fun q => ?_)), ?_⟩
  · have h2 : lno (sA a) (a 6) (a 7) j < LN a w := lno_lt hj
    have h3 : lno (sA a) (a 6) (a 7) j = LN a w := q
    omega
  · have := LN_le (a := a) (w := w + 1) hwd
    omega
theorem line_inv (hD : ShC C a (a 3) (a 4)) : ∀ w, w < a 0 → fsL a (a 3) (a 4) (LN a (w + 1) - 1) ≤ w ∧ lsum a (a 3) (a 4) (LN a (w + 1) - 1) 2 (w + 1) + a 6 = LPw a (w + 1)
  | w, hwd => by
    by_cases h : nb a w
    · obtain ⟨h1, h2⟩ := LN_y h
      obtain ⟨h3, h4⟩ := nb_fs h hwd
      have hi : isL a (a 3) (a 4) (LN a w) w = true := decide_eq_true (by rw [lno_e, h1, Nat.add_sub_cancel])
      have h0 := lsum_lo hD (what := 2) h4 w (by omega)
      have hf : ¬ fst (isL a (a 3) (a 4) (LN a w)) w < w := fun q => by
        have q2 := fst_yes _ _ q
        have q3 := fst_no (isL a (a 3) (a 4) (LN a w)) (a 0) (fst (isL a (a 3) (a 4) (LN a w)) w) (by unfold fsL at h3; omega)
        rw [q2] at q3
        cases q3
      rw [h1, Nat.add_sub_cancel, h2, lsum, if_pos hi, h0, if_pos rfl, if_neg hf, h3]
      refine ⟨Nat.le_refl _, ?_⟩
      show 0 + (sA a w + 0) + a 6 = sA a w + a 6
      omega
    · match w, h, hwd with
      | 0, h, _ => exact absurd (Or.inl rfl) h
      | w + 1, h, hwd =>
        obtain ⟨i1, i2⟩ := line_inv hD w (by omega)
        obtain ⟨h1, h2⟩ := LN_n h
        have hi : isL a (a 3) (a 4) (LN a (w + 1) - 1) (w + 1) = true := decide_eq_true (by rw [lno_e, h1])
        have hl : LN a (w + 1) - 1 < lnN a (a 3) (a 4) := by
          have q1 := LN_le (a := a) (w := w + 1) (by omega)
          have q2 := LN_1 (a := a) (w := w + 1) (Nat.succ_pos w)
          omega
        have hy := (hD.2.2 _ hl).2
        have hf : fst (isL a (a 3) (a 4) (LN a (w + 1) - 1)) (w + 1) < w + 1 := by
          rcases Nat.lt_or_ge (fst (isL a (a 3) (a 4) (LN a (w + 1) - 1)) (w + 1)) (w + 1) with q | q
          · exact q
          · have q2 := fst_yes (isL a (a 3) (a 4) (LN a (w + 1) - 1)) (a 0) hy
            have q3 := fst_no (isL a (a 3) (a 4) (LN a (w + 1) - 1)) (w + 1) (fsL a (a 3) (a 4) (LN a (w + 1) - 1)) (by omega)
            have q4 : isL a (a 3) (a 4) (LN a (w + 1) - 1) (fsL a (a 3) (a 4) (LN a (w + 1) - 1)) = true := q2
            rw [q3] at q4
            cases q4
        rw [h1, h2, lsum, if_pos hi, if_pos rfl, if_pos hf]
        refine ⟨by omega, ?_⟩
        show lsum a (a 3) (a 4) (LN a (w + 1) - 1) 2 (w + 1) + (sA a (w + 1) + a 6) + a 6 = LPw a (w + 1) + (sA a (w + 1) + a 6)
        omega
theorem lno_1 (hw : 0 < w) (h : ¬ nb a w) : lno (sA a) (a 6) (a 7) w = LN a w - 1 := by rw [lno_e, (LN_n h).1]
theorem lno_2 (h : nb a w) : lno (sA a) (a 6) (a 7) w = LN a w := by rw [lno_e, (LN_y h).1, Nat.add_sub_cancel]
theorem isL_w : isL a (a 3) (a 4) (LN a (w + 1) - 1) w = true := decide_eq_true rfl
/-- the line that word w ends -/
theorem line_end (hD : ShC C a (a 3) (a 4)) (hw : 0 < w) (hwd : w ≤ a 0) (h : w = a 0 ∨ nb a w) : LN a w - 1 < lnN a (a 3) (a 4) ∧ bhL a (a 3) (a 4) (LN a w - 1) = w ∧ fsL a (a 3) (a 4) (LN a w - 1) ≤ w ∧ lsum a (a 3) (a 4) (LN a w - 1) 2 (a 0) = PLc a w ∧ lsum a (a 3) (a 4) (LN a w - 1) 4 (a 0) = B4 a w ∧ plc (sA a) (a 6) (a 7) (w - 1) + sA a (w - 1) = PLc a w := by
  have h1 := LN_1 (a := a) hw
  have h2 := LN_le (a := a) hwd
  have hl : LN a w - 1 < lnN a (a 3) (a 4) := by omega
  have hb : bhL a (a 3) (a 4) (LN a w - 1) = w := by
    unfold bhL
    rw [Nat.sub_add_cancel h1]
    rcases Nat.lt_or_ge w (a 0) with q | q
    · have hn : nb a w := by
        rcases h with e | e
        · omega
        · exact e
      obtain ⟨n1, n2⟩ := nb_fs hn q
      rw [if_neg (by omega), n1]
    · have e : w = a 0 := by omega
      rw [e, if_pos (show lnN a (a 3) (a 4) ≤ LN a (a 0) from Nat.le_refl (LN a (a 0)))]
  obtain ⟨v, rfl⟩ : ∃ v, w = v + 1 := ⟨w - 1, by omega⟩
  obtain ⟨i1, i2⟩ := line_inv hD v (by omega)
  refine ⟨hl, hb, by omega, ?_, ?_, ?_⟩
  · rw [lsum_all hD hl, hb]
    unfold PLc
    rw [if_neg (Nat.succ_ne_zero v)]
    omega
  · rw [lsum_all hD hl, hb]
    unfold B4
    rw [if_neg (Nat.succ_ne_zero v)]
  · unfold PLc
    rw [if_neg (Nat.succ_ne_zero v), Nat.add_sub_cancel]
    by_cases n : nb a v
    · rw [plc_y n, (LN_y n).2]
      omega
    · rw [plc_n n, (LN_n n).2]
      omega
end LL1
theorem jp0 {α : Type} {k : α} {f : α → α} (h : ∀ j, f j = j) : jn k f = k := h k
theorem jp1 {α β : Type} {k : α → β} {f : (α → β) → β} {x : α} (h : ∀ j, f j = j x) : jn k f = k x := h k
theorem jp2 {α β γ : Type} {k : α → β → γ} {f : (α → β → γ) → γ} {x : α} {y : β} (h : ∀ j, f j = j x y) : jn k f = k x y := h k
theorem jp5 {α β γ δ ε ζ : Type} {k : α → β → γ → δ → ε → ζ} {f : (α → β → γ → δ → ε → ζ) → ζ} {x : α} {y : β} {z : γ} {u : δ} {v : ε} (h : ∀ j, f j = j x y z u v) : jn k f = k x y z u v := h k
section FI
variable {C L : kS} {a : kA} {N w : Nat}
theorem fm_t (h : hid a w = true) : fmI a w = nI (ul a (fo a w)) := if_pos (of_decide_eq_true h)
theorem fm_f (h : hid a w = false) : fmI a w = -nI 1 := if_neg (of_decide_eq_false h)
theorem fm_ge (hb : LB a) : (nI 0 ≤ fmI a w) = (hid a w = true) := by
  cases z : hid a w with
  | true =>
    obtain ⟨u1, u2, u3, -⟩ := ul_ok hb (of_decide_eq_true z)
    rw [fm_t z, q_le (by decide) (by omega)]
    simp
  | false => rw [fm_f z, q_le1n]; simp
theorem fm_lt (hb : LB a) : (fmI a w < nI 0) = ¬ (hid a w = true) := by
  cases z : hid a w with
  | true =>
    obtain ⟨u1, u2, u3, -⟩ := ul_ok hb (of_decide_eq_true z)
    rw [fm_t z, q_lt (by omega) (by decide)]
    simp
  | false => rw [fm_f z, q_lt1n]; simp
/-- the letters of a word -/
theorem f_744 (hR : RC C a) (hb : LB a) (hL : LR L a) (hwd : w < a 0) (kont : Int32 → Option Int32) (hN : 3000 ≤ N) : lp_L_isSo_744 N (nI w) (fmI a w) (C, L) kont N (nI 1) (nI 0) = kont (nI 1) := by
  have hw := hR.1
  have w8 := hb.1
  have hp := pg_ok hw hwd
  have hpl := hb.2.2.2.1 w hwd
  have hs := enc_small hp hpl
  have e2 : (L 2 w).toInt64 = lN (enc (lc a (34 + 13 * w)) (a (34 + 13 * w))) := by rw [hL.2.2.1 w hwd, nI_l (by omega)]
  have hlen := f_lenE (N := N) hp hpl hN
  obtain ⟨n, e⟩ := lpF (fun n i (x : Int32) => lp_L_isSo_744 N (nI w) (fmI a w) (C, L) kont n x (nI i)) (fun _ => nI 1) (a (34 + 13 * w)) (fun n i hi => by
    show lp_L_isSo_744 N (nI w) (fmI a w) (C, L) kont (n + 1) (nI 1) (nI i) = lp_L_isSo_744 N (nI w) (fmI a w) (C, L) kont n (nI 1) (nI (i + 1))
    rw [lp_L_isSo_744]
    dsimp only
    rw [q_gIn (by omega) (by decide), q_cl (by omega), e2, hlen, ob, if_neg (by intro q; have := (nI_leI (by omega) (by omega)).mp q; omega), i_0, i_1, i_5, nI_add]
    refine (jp1 (x := nI 1) (fun j => ?_)).trans rfl
    rw [jn_eq, if_neg (by rw [q_nT]; exact not_false), V_letter hR hwd (by omega) hN, ob]
    have hm : nI (a (34 + 13 * w)) - nI 1 - nI i = nI (a (34 + 13 * w) - 1 - i) := by rw [q_sub (by omega), q_sub (by omega)]
    have hd : enc (lc a (34 + 13 * w)) (a (34 + 13 * w)) / 32 ^ (a (34 + 13 * w) - 1 - i) < 2147483648 := Nat.lt_of_le_of_lt (Nat.div_le_self _ _) (by omega)
    cases z : hid a w with
    | true =>
      refine (jp1 (x := (-12 : Int32)) (fun j2 => ?_)).trans ?_
      · rw [if_pos (by rw [fm_ge hb]; exact z)]
      · simp only [↓reduceIte]
    | false =>
      refine (jp1 (x := nI (97 + a (34 + 13 * w + 1 + i))) (fun j2 => ?_)).trans ?_
      · rw [if_neg (by rw [fm_ge hb, z]; decide), q_gIn (by omega) (by decide), q_gIn (by omega) (by decide), ob, hm, pk_mul, lz_shr (by omega) (by omega), p32, lz_m31, enc_digit hp hi, lN_i, show (96 : Int32) = nI 96 by decide, nI_add]
        unfold lc
        rw [show 96 + (a (34 + 13 * w + 1 + i) + 1) = 97 + a (34 + 13 * w + 1 + i) by omega]
      · simp only [Bool.false_eq_true, ↓reduceIte, hi]) (N := N) 0 (Nat.zero_le _) (by omega)
  refine e.trans ?_
  show lp_L_isSo_744 N (nI w) (fmI a w) (C, L) kont (n + 1) (nI 1) (nI (a (34 + 13 * w))) = _
  rw [lp_L_isSo_744]
  dsimp only
  rw [q_gIn (by omega) (by decide), q_cl (by omega), e2, hlen, ob, if_pos (Int32.le_refl _)]
/-- bars of one width -/
theorem f_689 (hw : WF a) (hwd : w < a 0) (hw8 : a 0 ≤ 8) (h5 : ∀ k, k < w → L 5 k = if hid a k = true then nI (sA a k) else -1) (kont : Int32 → Option Int32) (hN : 3000 ≤ N) : lp_L_isSo_689 N (nI w) (nI (sA a w)) (C, L) kont N (if hid a w = true then nI 1 else nI 0) (nI 0) = kont (if frs a (a 3) (a 4) w = true then nI 1 else nI 0) := by
  have hst := hw.2.2.2.2.1
  obtain ⟨n, e⟩ := lpF (fun n i (x : Int32) => lp_L_isSo_689 N (nI w) (nI (sA a w)) (C, L) kont n x (nI i)) (fun i => if (hid a w && allB (fun k => !(hid a k && decide (sA a k = sA a w))) i) = true then nI 1 else nI 0) w (fun n i hi => by
    have s1 : sA a i ≤ 148 := sh_le hw (m := a 3) hst (show i < a 0 by omega)
    have s2 : sA a w ≤ 148 := sh_le hw (m := a 3) hst hwd
    show lp_L_isSo_689 N (nI w) (nI (sA a w)) (C, L) kont (n + 1) (if (hid a w && allB (fun k => !(hid a k && decide (sA a k = sA a w))) i) = true then nI 1 else nI 0) (nI i) = lp_L_isSo_689 N (nI w) (nI (sA a w)) (C, L) kont n (if (hid a w && allB (fun k => !(hid a k && decide (sA a k = sA a w))) (i + 1)) = true then nI 1 else nI 0) (nI (i + 1))
    rw [lp_L_isSo_689, allB, ← Bool.and_assoc]
    dsimp only
    generalize (hid a w && allB (fun k => !(hid a k && decide (sA a k = sA a w))) i) = T
    rw [if_neg (by intro q; have := (nI_leI (by omega) (by omega)).mp q; omega), i_0, i_1, nI_add]
    refine (jp1 (x := if (T && !(hid a i && decide (sA a i = sA a w))) = true then nI 1 else nI 0) (fun j => ?_)).trans rfl
    rw [jn_eq]
    cases T with
    | false => simp only [Bool.false_and, Bool.false_eq_true, ↓reduceIte]
    | true =>
      simp only [Bool.true_and, ↓reduceIte, q_nT]
      rw [q_gIn (by omega) (by decide), q_cl (by omega)]
      simp only [h5 i hi]
      cases z : hid a i with
      | true =>
        simp only [Bool.true_and, ↓reduceIte, q_eq (show sA a i < 2147483648 by omega) (show sA a w < 2147483648 by omega)]
        by_cases y : sA a i = sA a w
        · simp only [y, ↓reduceIte, decide_true, Bool.not_true, Bool.false_eq_true]
        · simp only [y, ↓reduceIte, decide_false, Bool.not_false]
      | false =>
        have hne : ((-1 : Int32) = nI (sA a w)) = False := by
          have := q_m1 (n := sA a w) (by omega)
          exact eq_false (fun q => by rw [← q] at this; simp at this)
        simp only [Bool.false_eq_true, ↓reduceIte, Bool.false_and, Bool.not_false, hne]) (N := N) 0 (Nat.zero_le _) (by omega)
  have e0 : (if (hid a w && allB (fun k => !(hid a k && decide (sA a k = sA a w))) 0) = true then nI 1 else nI 0) = if hid a w = true then nI 1 else nI 0 := by rw [allB, Bool.and_true]
  rw [e0] at e
  refine e.trans ?_
  show lp_L_isSo_689 N (nI w) (nI (sA a w)) (C, L) kont (n + 1) (if (hid a w && allB (fun k => !(hid a k && decide (sA a k = sA a w))) w) = true then nI 1 else nI 0) (nI w) = _
  rw [lp_L_isSo_689, if_pos (Int32.le_refl _)]
  rfl
end FI
