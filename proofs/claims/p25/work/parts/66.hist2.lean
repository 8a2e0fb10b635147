/-! ===== the history ===== -/
def HsC (C M : kS) (h : Nat) (p : Nat → Nat) (bs : Nat → kA) : Prop := h ≤ 4 ∧ C 24 1 = nI h ∧ M 0 2 = nI h ∧ (∀ i, i < 4 → C 25 i = nI (p i) ∧ Qs (p i) ∧ p i ≠ 4 ∧ ShpC C (p i)) ∧ (∀ i j, i < 4 → j < 4 → p i = p j → i = j) ∧ ∀ j, j < h → WF (bs j) ∧ StC C (p j) (bs j) ∧ ∀ i, i < 642 → M 2 (642 * j + i) = nI (bs j i)
section HH2
variable {C M : kS} {a : kA} {N : Nat}
theorem m_store {h : Nat} (hh : M 0 2 = nI h) (h3 : h ≤ 3) (kont : kS → Option kS) (hN : 3000 ≤ N) : ∃ M', lp_X9_records_51 N kont N (nI 0) M = kont M' ∧ (∀ j, j ≠ 2 → M' j = M j) ∧ (∀ i, i < 642 → M' 2 (642 * h + i) = M 1 i) ∧ ∀ i, i < 642 * h → M' 2 i = M 2 i := by
  obtain ⟨M1, n, ⟨b0, b1, b2⟩, e⟩ := lpN (fun n i (x : kS) => lp_X9_records_51 N kont n (nI i) x) (fun i x => (∀ j, j ≠ 2 → x j = M j) ∧ (∀ j, j < i → x 2 (642 * h + j) = M 1 j) ∧ ∀ j, j < 642 * h → x 2 j = M 2 j) 642 (fun n i x hi hI => by
    obtain ⟨c0, c1, c2⟩ := hI
    refine ⟨up1 x 2 (upd (x 2) (642 * h + i) (M 1 i)), ⟨fun j hj => by rw [up1_n hj]; exact c0 j hj, fun j hj => ?_, fun j hj => ?_⟩, ?_⟩
    · rw [up1_s]
      by_cases z : j = i
      · subst z
        rw [pk_us]
      · rw [pk_un (by omega)]
        exact c1 j (by omega)
    · rw [up1_s, pk_un (by omega)]
      exact c2 j hj
    · show lp_X9_records_51 N kont (n + 1) (nI i) x = lp_X9_records_51 N kont n (nI (i + 1)) _
      have x02 : x 0 2 = nI h := by rw [c0 0 (by decide)]; exact hh
      have x1 : x 1 = M 1 := c0 1 (by decide)
      rw [lp_X9_records_51]
      simp (disch := omega) only [i_642, q_le, if_neg, x02, pk_mul, nI_add, q_gIn, q_cl, x1, ↓jn_eq, i_1]) (N := N) 0 M (Nat.zero_le _) (by omega) ⟨fun j _ => rfl, fun j hj => absurd hj (Nat.not_lt_zero j), fun j _ => rfl⟩
  refine ⟨M1, e.trans ?_, b0, b1, b2⟩
  show lp_X9_records_51 N kont (n + 1) (nI 642) M1 = kont M1
  rw [lp_X9_records_51, if_pos (by decide)]
theorem m_shift (kont : kS → Option kS) (hN : 3000 ≤ N) : ∃ M', lp_X9_records_10 N kont N (nI 0) M = kont M' ∧ (∀ j, j ≠ 2 → M' j = M j) ∧ ∀ i, i < 1926 → M' 2 i = M 2 (i + 642) := by
  obtain ⟨M1, n, ⟨b0, b1, b2⟩, e⟩ := lpN (fun n i (x : kS) => lp_X9_records_10 N kont n (nI i) x) (fun i x => (∀ j, j ≠ 2 → x j = M j) ∧ (∀ j, j < i → x 2 j = M 2 (j + 642)) ∧ ∀ j, i ≤ j → x 2 j = M 2 j) 1926 (fun n i x hi hI => by
    obtain ⟨c0, c1, c2⟩ := hI
    refine ⟨up1 x 2 (upd (x 2) i (M 2 (i + 642))), ⟨fun j hj => by rw [up1_n hj]; exact c0 j hj, fun j hj => ?_, fun j hj => ?_⟩, ?_⟩
    · rw [up1_s]
      by_cases z : j = i
      · subst z
        rw [pk_us]
      · rw [pk_un z]
        exact c1 j (by omega)
    · rw [up1_s, pk_un (by omega)]
      exact c2 j (by omega)
    · show lp_X9_records_10 N kont (n + 1) (nI i) x = lp_X9_records_10 N kont n (nI (i + 1)) _
      rw [lp_X9_records_10]
      simp (disch := omega) only [i_1926, i_642, q_le, if_neg, nI_add, q_gIn, q_cl, ↓jn_eq, i_1, c2]) (N := N) 0 M (Nat.zero_le _) (by omega) ⟨fun j _ => rfl, fun j hj => absurd hj (Nat.not_lt_zero j), fun j _ => rfl⟩
  refine ⟨M1, e.trans ?_, b0, b1⟩
  show lp_X9_records_10 N kont (n + 1) (nI 1926) M1 = kont M1
  rw [lp_X9_records_10, if_pos (by decide)]
theorem x_rotate {p : Nat → Nat} (hp : ∀ i, i < 4 → C 25 i = nI (p i) ∧ Qs (p i)) (hN : 3000 ≤ N) : ∃ C', f_X2_moveOldestToEnd N C = some C' ∧ (∀ j, j ≠ 25 → C' j = C j) ∧ ∀ i, i < 4 → C' 25 i = nI (if i = 3 then p 0 else p (i + 1)) := by
  have hl : ln 25 = 4 := rfl
  unfold f_X2_moveOldestToEnd
  obtain ⟨C1, n, ⟨b0, b1, b2, b3⟩, e⟩ := lpN (fun n i (x : kS) => lp_X2_moveOldestToEnd_2 N (fun C1 => some C1) n (nI i) x) (fun i x => (∀ j, j ≠ 25 → x j = C j) ∧ (∀ j, j < i → x 25 j = nI (p (j + 1))) ∧ x 25 i = nI (p 0) ∧ ∀ j, i < j → j < 4 → x 25 j = nI (p j)) 3 (fun n i x hi hI => by
    obtain ⟨c0, c1, c2, c3⟩ := hI
    have q0 := (hp 0 (by decide)).2
    have q1 := (hp (i + 1) (by omega)).2
    have r0 : p 0 ≤ 100 := by unfold Qs at q0; omega
    have r1 : p (i + 1) ≤ 100 := by unfold Qs at q1; omega
    refine ⟨up1 (up1 x 25 (upd (x 25) i (nI (p (i + 1))))) 25 (upd (upd (x 25) i (nI (p (i + 1)))) (i + 1) (nI (p 0))), ⟨fun j hj => by rw [up1_n hj, up1_n hj]; exact c0 j hj, fun j hj => ?_, ?_, fun j h1 h2 => ?_⟩, ?_⟩
    · rw [up1_s, pk_un (by omega)]
      by_cases z : j = i
      · subst z
        rw [pk_us]
      · rw [pk_un z]
        exact c1 j (by omega)
    · rw [up1_s, pk_us]
    · rw [up1_s, pk_un (by omega), pk_un (by omega)]
      exact c3 j (by omega) h2
    · show lp_X2_moveOldestToEnd_2 N _ (n + 1) (nI i) x = lp_X2_moveOldestToEnd_2 N _ n (nI (i + 1)) _
      have c4 := c3 (i + 1) (by omega) (by omega)
      rw [lp_X2_moveOldestToEnd_2, hl, i_1]
      simp (disch := omega) only [nI_add, q_le, if_neg, q_gIn, q_cl, ↓jn_eq, c2, c4]
      rw [gIf_y q0.ln.2.2.2.2.2, gIf_y q1.ln.2.2.2.2.2, up1_s]) (N := N) 0 C (Nat.zero_le _) (by omega) ⟨fun j _ => rfl, fun j hj => absurd hj (Nat.not_lt_zero j), (hp 0 (by decide)).1, fun j h1 h2 => (hp j h2).1⟩
  refine ⟨C1, ?_, b0, fun i hi => ?_⟩
  · simp only [↓jn_eq, i_0]
    refine e.trans ?_
    show lp_X2_moveOldestToEnd_2 N _ (n + 1) (nI 3) C1 = _
    rw [lp_X2_moveOldestToEnd_2, hl, if_pos (by decide)]
  · by_cases z : i = 3
    · rw [if_pos z, z]
      exact b2
    · rw [if_neg z]
      exact b1 i (by omega)
theorem x_latest {h q : Nat} (hh : C 24 1 = nI h) (h0 : 0 < h) (h4 : h ≤ 4) (hq : C 25 (h - 1) = nI q) : f_X2_latest N C = some (some (nI q)) := by
  have hl : ln 25 = 4 := rfl
  unfold f_X2_latest
  rw [hh, hl]
  simp (disch := omega) only [i_0, i_1, q_le, q_lt, if_neg, q_sub, q_gIn, q_cl, hq]
/-- what a kept state leaves as it was -/
def KpC (C C' : kS) : Prop := ∀ j, (j < 24 ∨ 106 ≤ j) → C' j = C j
def KpM (M M' : kS) : Prop := (∀ j, j ≠ 0 → j ≠ 2 → M' j = M j) ∧ ∀ j, j ≠ 2 → M' 0 j = M 0 j
theorem x_keep2 {h : Nat} {p : Nat → Nat} {bs : Nat → kA} (hb : h ≤ 3) (h1 : C 24 1 = nI (h + 1)) (hM2 : M 0 2 = nI h) (hp : ∀ i, i < 4 → C 25 i = nI (p i) ∧ Qs (p i) ∧ p i ≠ 4 ∧ ShpC C (p i)) (hi : ∀ i j, i < 4 → j < 4 → p i = p j → i = j) (hs : ∀ j, j < h → WF (bs j) ∧ StC C (p j) (bs j) ∧ ∀ i, i < 642 → M 2 (642 * j + i) = nI (bs j i)) (hw : WF a) (hM : SM M a) (hS : StC C 4 a) (hN : 3000 ≤ N) : ∃ C' M' bs', ((f_X2_latest N C).bind (fun o4 => oM o4 (some C) (fun q5 : Int32 => gIf (kd q5.toNatClampNeg = 5) ((f_X5_copyFrom N C q5.toNatClampNeg 4).bind (fun C7 => some C7))))) = some C' ∧ lp_X9_records_51 N (fun C3 => jn (up1 C3 0 (upd (C3 0) 2 ((C3 0 2) + 1))) (fun C5 : kS => some C5)) N (nI 0) M = some M' ∧ HsC C' M' (h + 1) p bs' ∧ KpC C C' ∧ KpM M M' := by
  obtain ⟨p1, p2, p3, p4⟩ := hp h (by omega)
  have r1 : p h ≤ 86 ∧ 26 ≤ p h := by unfold Qs at p2; omega
  obtain ⟨C', e1, g1, x1⟩ := x_stCopy (N := N) hS hw (Or.inl rfl) p2 (fun q => p3 q.symm) p4
  obtain ⟨M1, e2, y1, y2, y3⟩ := m_store (N := N) hM2 hb (fun C3 => jn (up1 C3 0 (upd (C3 0) 2 ((C3 0 2) + 1))) (fun C5 : kS => some C5)) hN
  have hx : ∀ i, i < 4 → i ≠ h → ∀ j, p i ≤ j → j < p i + 20 → C' j = C j := fun i h4 hne j j1 j2 => by
    have ha := (hp i h4).2.1.ap p2 (fun q => hne (hi i h h4 (by omega) q))
    exact x1 j (by omega)
  have m02 : M1 0 2 = nI h := by rw [y1 0 (by decide)]; exact hM2
  refine ⟨C', up1 M1 0 (upd (M1 0) 2 (nI (h + 1))), fun j => if j = h then a else bs j, ?_, ?_, ⟨by omega, ?_, ?_, fun i h4 => ⟨?_, (hp i h4).2.1, (hp i h4).2.2.1, ?_⟩, hi, fun j hj => ?_⟩, fun j hj => x1 j ?_, ?_, ?_⟩
  · rw [x_latest h1 (by omega) (by omega) (by rw [Nat.add_sub_cancel]; exact p1), ob]
    show gIf (kd (nI (p h)).toNatClampNeg = 5) _ = _
    rw [q_cl (by omega), gIf_y p2.ln.2.2.2.2.2, e1, ob]
  · rw [e2]
    simp only [↓jn_eq, m02, i_1, nI_add]
  · rw [x1 24 (by omega)]; exact h1
  · rw [up1_s, pk_us]
  · rw [x1 25 (by omega)]; exact (hp i h4).1
  · by_cases z : i = h
    · rw [z]
      exact g1.shp
    · obtain ⟨⟨s1, s2⟩, ⟨s3, s4⟩, s5, s6⟩ := (hp i h4).2.2.2
      refine ⟨⟨?_, ?_⟩, ⟨?_, ?_⟩, ?_, ?_⟩
      · rw [hx i h4 z _ (by omega) (by omega)]; exact s1
      · rw [hx i h4 z _ (by omega) (by omega)]; exact s2
      · rw [hx i h4 z _ (by omega) (by omega)]; exact s3
      · rw [hx i h4 z _ (by omega) (by omega)]; exact s4
      · rw [hx i h4 z _ (by omega) (by omega)]; exact s5
      · rw [hx i h4 z _ (by omega) (by omega)]; exact s6
  · by_cases z : j = h
    · subst z
      simp only [↓reduceIte]
      refine ⟨hw, g1, fun i hi2 => ?_⟩
      rw [up1_n (show (2 : Nat) ≠ 0 by decide), y2 i hi2]
      exact hM i hi2
    · simp only [z, ↓reduceIte]
      obtain ⟨b1, b2, b3⟩ := hs j (by omega)
      refine ⟨b1, b2.cg (fun k k1 k2 => hx j (by omega) z k (by omega) k2), fun i hi2 => ?_⟩
      rw [up1_n (show (2 : Nat) ≠ 0 by decide), y3 _ (by omega)]
      exact b3 i hi2
  · omega
  · intro j j0 j2
    rw [up1_n j0, y1 j j2]
  · intro j j2
    rw [up1_s, pk_un j2, y1 0 (by decide)]
theorem J_keep {h : Nat} {p : Nat → Nat} {bs : Nat → kA} (hH : HsC C M h p bs) (hw : WF a) (hM : SM M a) (hS : StC C 4 a) (hN : 3000 ≤ N) : ∃ C' M' h' p' bs', f_X2_keep N C = some C' ∧ f_X9_records N M = some M' ∧ HsC C' M' h' p' bs' ∧ KpC C C' ∧ KpM M M' := by
  obtain ⟨h4, h1, h2, hp, hi, hs⟩ := hH
  have hl : ln 25 = 4 := rfl
  unfold f_X2_keep f_X9_records
  simp only [jn_eq]
  rw [h1, h2, hl]
  by_cases z : h = 4
  · subst z
    obtain ⟨C1, e1, x1, x2⟩ := x_rotate (N := N) (fun i hi4 => ⟨(hp i hi4).1, (hp i hi4).2.1⟩) hN
    obtain ⟨M1, e2, y1, y2⟩ := m_shift (N := N) (M := M) (fun C13 => lp_X9_records_51 N (fun C3 => some (up1 C3 0 (upd (C3 0) 2 ((C3 0 2) + 1)))) N (nI 0) (up1 C13 0 (upd (C13 0) 2 ((C13 0 2) - 1)))) hN
    have hpp : ∀ i, i < 4 → (if i = 3 then p 0 else p (i + 1)) = p (if i = 3 then 0 else i + 1) := fun i _ => by split <;> rfl
    obtain ⟨C', M', bs', f1, f2, f3, f4, f5⟩ := x_keep2 (N := N) (C := C1) (M := up1 M1 0 (upd (M1 0) 2 (nI 3))) (h := 3) (p := fun i => p (if i = 3 then 0 else i + 1)) (bs := fun j => bs (j + 1)) (a := a) (by decide) (by rw [x1 24 (by decide)]; exact h1) (by rw [up1_s, pk_us]) (fun i hi4 => by
      have hk : (if i = 3 then 0 else i + 1) < 4 := by split <;> omega
      obtain ⟨q1, q2, q3, q4⟩ := hp _ hk
      refine ⟨by rw [x2 i hi4, hpp i hi4], q2, q3, ?_⟩
      have q5 : 26 ≤ p (if i = 3 then 0 else i + 1) := by unfold Qs at q2; omega
      unfold ShpC
      rw [x1 _ (by omega), x1 _ (by omega), x1 _ (by omega)]
      exact q4) (fun i j i4 j4 he => by
      have := hi _ _ (show (if i = 3 then 0 else i + 1) < 4 by split <;> omega) (show (if j = 3 then 0 else j + 1) < 4 by split <;> omega) he
      split at this <;> split at this <;> omega) (fun j hj => by
      obtain ⟨b1, b2, b3⟩ := hs (j + 1) (by omega)
      have q2 := (hp (j + 1) (by omega)).2
      have q5 : 26 ≤ p (j + 1) := by have := q2.1; have := q2.2.1; unfold Qs at *; omega
      refine ⟨b1, ?_, fun i hi2 => ?_⟩
      · simp only [show ¬ j = 3 by omega, ↓reduceIte]
        exact b2.cg (fun k k1 k2 => x1 k (by omega))
      · rw [up1_n (show (2 : Nat) ≠ 0 by decide), y2 _ (by omega)]
        have b4 := b3 i hi2
        rw [show 642 * (j + 1) + i = 642 * j + i + 642 by omega] at b4
        exact b4) hw (fun i hi2 => by rw [up1_n (show (1 : Nat) ≠ 0 by decide), y1 1 (by decide)]; exact hM i hi2) (hS.cg (fun k k1 k2 => x1 k (by omega))) hN
    refine ⟨C', M', _, _, bs', ?_, ?_, f3, fun j hj => ?_, ?_, ?_⟩
    · rw [if_pos (by decide), e1, ob]
      exact f1
    · have m02 : M1 0 2 = nI 4 := by rw [y1 0 (by decide)]; exact h2
      rw [i_4, if_pos rfl, i_0, e2]
      simp only [m02, i_1]
      have e5 : nI 4 - nI 1 = nI 3 := by decide
      rw [e5, ← i_1]
      exact f2
    · rw [f4 j hj, x1 j (by omega)]
    · intro j j0 j2
      rw [f5.1 j j0 j2, up1_n j0, y1 j j2]
    · intro j j2
      rw [f5.2 j j2, up1_s, pk_un j2, y1 0 (by decide)]
  · obtain ⟨C', M', bs', f1, f2, f3, f4, f5⟩ := x_keep2 (N := N) (C := up1 C 24 (upd (C 24) 1 (nI (h + 1)))) (M := M) (h := h) (p := p) (bs := bs) (a := a) (by omega) (by rw [up1_s, pk_us]) h2 (fun i hi4 => by
      obtain ⟨q1, q2, q3, q4⟩ := hp i hi4
      have q5 : 26 ≤ p i := by unfold Qs at q2; omega
      refine ⟨by rw [up1_n (by decide)]; exact q1, q2, q3, ?_⟩
      unfold ShpC
      rw [up1_n (by omega), up1_n (by omega), up1_n (by omega)]
      exact q4) hi (fun j hj => by
      obtain ⟨b1, b2, b3⟩ := hs j hj
      have q2 := (hp j (by omega)).2
      have q5 : 26 ≤ p j := by have := q2.1; have := q2.2.1; unfold Qs at *; omega
      exact ⟨b1, b2.cg (fun k k1 k2 => up1_n (by omega)), b3⟩) hw hM (hS.cg (fun k k1 k2 => up1_n (by omega))) hN
    refine ⟨C', M', _, _, bs', ?_, ?_, f3, fun j hj => ?_, f5⟩
    · have hn : ¬ nI 4 ≤ nI h := fun q => by have := (nI_leI (by omega) (by omega)).mp q; omega
      rw [if_neg hn, i_1, nI_add]
      exact f1
    · have hn : ¬ nI h = 4 := fun q => by rw [i_4] at q; exact z ((nI_eq (by omega) (by omega)).mp q)
      rw [if_neg hn, i_0]
      exact f2
    · rw [f4 j hj, up1_n (by omega)]
end HH2
