/-! ===== the class's forms ===== -/
def FmC (C : kS) (a : kA) : Prop := C 106 3 = nI (a 2 + 1) ∧ C 106 4 = nI (sF a) ∧ (∀ f, f < sF a → C 108 f = nI (fw a f)) ∧ (∀ f, f < sF a → C 110 f = nI (rk a f)) ∧ ∀ r, r < sF a → C 112 r = nI (fw a (srt a r))
theorem StC.cg {C C' : kS} {q : Nat} {a : kA} (hS : StC C q a) (h : ∀ j, q < j → j < q + 20 → C' j = C j) : StC C' q a := by
  obtain ⟨⟨p1, p2, p3, p4⟩, ⟨n1, n2, n3, n4⟩, ⟨e1, e2, e3, e4⟩, hl, hs⟩ := hS
  refine ⟨⟨?_, ?_, ?_, fun w hw => ?_⟩, ⟨?_, ?_, ?_, fun w hw => ?_⟩, ⟨?_, ?_, ?_, fun w hw => ?_⟩, fun j hj => ?_, fun j hj => ?_⟩
  · rw [h (q + 1) (by omega) (by omega)]; exact p1
  · rw [h (q + 1) (by omega) (by omega)]; exact p2
  · rw [h (q + 1) (by omega) (by omega)]; exact p3
  · rw [h (q + 1 + 4) (by omega) (by omega), h (q + 1 + 2) (by omega) (by omega)]; exact p4 w hw
  · rw [h (q + 6) (by omega) (by omega)]; exact n1
  · rw [h (q + 6) (by omega) (by omega)]; exact n2
  · rw [h (q + 6) (by omega) (by omega)]; exact n3
  · rw [h (q + 6 + 4) (by omega) (by omega), h (q + 6 + 2) (by omega) (by omega)]; exact n4 w hw
  · rw [h (q + 11) (by omega) (by omega)]; exact e1
  · rw [h (q + 11) (by omega) (by omega)]; exact e2
  · rw [h (q + 11) (by omega) (by omega)]; exact e3
  · rw [h (q + 11 + 4) (by omega) (by omega), h (q + 11 + 2) (by omega) (by omega)]; exact e4 w hw
  · rw [h (q + 17) (by omega) (by omega)]; exact hl j hj
  · rw [h (q + 19) (by omega) (by omega)]; exact hs j hj
theorem q_en0 : nI 0 - nI 1 = -nI 1 := by decide
theorem q_enp {n : Nat} (h : ¬ n = 0) : nI n - nI 1 = nI (n - 1) := q_sub (by omega)
section XX2
variable {C : kS} {a : kA} {N : Nat}
theorem x_nameOf (h : C 106 3 = nI (a 2 + 1)) (h2 : a 2 ≤ 4) {f : Nat} (hf : f ≤ 1000) : f_X1_nameOf N C (nI f) = some (nI (f / (a 2 + 1))) := by
  unfold f_X1_nameOf
  rw [h]
  simp (disch := omega) only [i_1, q_le, Nat.le_add_left, ↓reduceIte, ↓jn_eq, q_nz, q_div]
theorem x_endingOf (h : C 106 3 = nI (a 2 + 1)) (h2 : a 2 ≤ 4) {f : Nat} (hf : f ≤ 1000) : f_X1_endingOf N C (nI f) = some (nI (f % (a 2 + 1)) - nI 1) := by
  unfold f_X1_endingOf
  rw [h]
  simp (disch := omega) only [i_1, q_le, Nat.le_add_left, ↓reduceIte, ↓jn_eq, q_nz, q_rem]
theorem x_widthOfForm (hS : StC C 4 a) (hw : WF a) {f : Nat} (hf : f < sF a) (hN : 3000 ≤ N) : f_X5_widthOfForm N C (nI (f / (a 2 + 1))) (nI (f % (a 2 + 1)) - nI 1) = some (nI (fw a f)) := by
  obtain ⟨w0, w1, w2, w3, w4, w5, w6, w7, wl, wp, wn, we⟩ := id hw
  obtain ⟨hp, hn, he, hl, hs⟩ := hS
  have hr := fr (a := a) f
  unfold f_X5_widthOfForm
  rw [x_widthOf (k := 10) (mw := 8) (ml := 8) hn rfl rfl (by decide) (by decide) w1 hl wl wn (fq hf) hN, ob]
  by_cases z : f % (a 2 + 1) = 0
  · rw [z, q_en0, x_widthN (k := 15) he hN, ob, nI_add]
    unfold fw fnA
    rw [if_pos z]
  · rw [q_enp z, x_widthOf (k := 15) (mw := 4) (ml := 3) he rfl rfl (by decide) (by decide) w2 hl wl we (by omega) hN, ob, nI_add]
    unfold fw fnA feA
    rw [if_neg z]
theorem x_formsAhead (hF : C 106 4 = nI (sF a)) (h8 : ∀ f, f < sF a → C 108 f = nI (fw a f)) (hw : WF a) {f : Nat} (hf : f < sF a) (hN : 3000 ≤ N) : f_X1_formsAheadOf N C (nI f) = some (nI (rk a f)) := by
  have hle := sF_le hw
  have hb := fw_le hw hf
  unfold f_X1_formsAheadOf
  rw [x_at (k := 107) (n := 40) rfl (by omega) (by decide), ob, h8 f hf]
  simp only [↓jn_eq]
  obtain ⟨m, e⟩ := lpF (fun m i (x : Int32) => lp_X1_formsAheadOf_14 N C (nI f) (nI (fw a f)) (fun x3 => some x3) m x (nI i)) (fun i => nI (ct (ahd a f) i)) (sF a) (fun m g hg => by
    have hb2 := fw_le hw hg
    have hc := ct_le (ahd a f) g
    show lp_X1_formsAheadOf_14 N C (nI f) (nI (fw a f)) _ (m + 1) (nI (ct (ahd a f) g)) (nI g) = lp_X1_formsAheadOf_14 N C (nI f) (nI (fw a f)) _ m (nI (ct (ahd a f) (g + 1))) (nI (g + 1))
    rw [lp_X1_formsAheadOf_14, ct, x_at (k := 107) (n := 40) rfl (by omega) (by decide), ob, h8 g hg, hF]
    simp (disch := omega) only [q_le, Nat.not_le.mpr hg, ↓reduceIte, ↓jn_eq, q_lt, q_eq, i_1, nI_add]
    by_cases y1 : fw a g < fw a f
    · have ys : ahd a f g = true := decide_eq_true (Or.inl y1)
      simp only [y1, ↓reduceIte, ys]
    · by_cases y2 : fw a g = fw a f
      · by_cases y3 : f ≤ g
        · have ys : ahd a f g = false := decide_eq_false (by omega)
          simp only [y2, Nat.lt_irrefl, y3, ↓reduceIte, ys, Bool.false_eq_true, Nat.add_zero]
        · have ys : ahd a f g = true := decide_eq_true (Or.inr ⟨y2, by omega⟩)
          simp only [y2, Nat.lt_irrefl, y3, ↓reduceIte, ys]
      · have ys : ahd a f g = false := decide_eq_false (by omega)
        simp only [y2, y1, ↓reduceIte, ys, Bool.false_eq_true, Nat.add_zero]) (N := N) 0 (Nat.zero_le _) (by omega)
  refine Eq.trans ?_ (e.trans ?_)
  · rfl
  · show lp_X1_formsAheadOf_14 N C (nI f) (nI (fw a f)) _ (m + 1) (nI (ct (ahd a f) (sF a))) (nI (sF a)) = _
    rw [lp_X1_formsAheadOf_14, hF]
    simp (disch := omega) only [q_le, Nat.le_refl, ↓reduceIte]
    rfl
theorem x_measure (hS : StC C 4 a) (hw : WF a) (hN : 3000 ≤ N) : ∃ C', f_X1_measure N C = some C' ∧ (∀ j, j ≠ 106 → j ≠ 108 → j ≠ 110 → j ≠ 112 → C' j = C j) ∧ FmC C' a := by
  obtain ⟨w0, w1, w2, w3, w4, w5, w6, w7, wl, wp, wn, we⟩ := id hw
  have hle := sF_le hw
  obtain ⟨hp, hn, he, hl, hs⟩ := id hS
  unfold f_X1_measure f_X7_size
  have e1 : C 15 4 = nI (a 2) := he.2.2.1
  have e2 : C 10 4 = nI (a 1) := hn.2.2.1
  simp only [ob, ↓jn_eq, e1, e2, i_1, nI_add, up1_s, up1_n (show (10 : Nat) ≠ 106 by decide), pk_us, pk_mul]
  generalize hC0 : up1 (up1 C 106 (upd (C 106) 3 (nI (a 2 + 1)))) 106 (upd (upd (C 106) 3 (nI (a 2 + 1))) 4 (nI (a 1 * (a 2 + 1)))) = C0
  have a0 : ∀ j, j ≠ 106 → C0 j = C j := fun j hj => by rw [← hC0, up1_n hj, up1_n hj]
  have a3 : C0 106 3 = nI (a 2 + 1) := by rw [← hC0, up1_s, pk_un (by decide), pk_us]
  have a4 : C0 106 4 = nI (sF a) := by rw [← hC0, up1_s, pk_us]; rfl
  obtain ⟨C1, n, ⟨b0, b1⟩, e⟩ := lpN (fun n i (x : kS) => lp_X1_measure_31 N (fun C7 => lp_X1_measure_69 N (fun C9 => some C9) N 0 C7) n (nI i) x) (fun f x => (∀ j, j ≠ 108 → x j = C0 j) ∧ ∀ g, g < f → x 108 g = nI (fw a g)) (sF a) (fun n f x hf hI => by
    obtain ⟨c0, c1⟩ := hI
    have hSx : StC x 4 a := hS.cg (fun j h1 h2 => by rw [c0 j (by omega), a0 j (by omega)])
    have x3 : x 106 3 = nI (a 2 + 1) := by rw [c0 106 (by decide)]; exact a3
    have x4 : x 106 4 = nI (sF a) := by rw [c0 106 (by decide)]; exact a4
    refine ⟨up1 x 108 (upd (x 108) f (nI (fw a f))), ⟨fun j hj => by rw [up1_n hj]; exact c0 j hj, fun g hg => ?_⟩, ?_⟩
    · rw [up1_s]
      by_cases z : g = f
      · subst z
        rw [pk_us]
      · rw [pk_un z]
        exact c1 g (by omega)
    · show lp_X1_measure_31 N _ (n + 1) (nI f) x = lp_X1_measure_31 N _ n (nI (f + 1)) _
      rw [lp_X1_measure_31, x4]
      simp (disch := omega) only [q_le, Nat.not_le.mpr hf, ↓reduceIte, x_nameOf x3 w2, x_endingOf x3 w2, ob, x_widthOfForm hSx hw hf hN, i_1, nI_add]
      rw [x_put (k := 107) (n := 40) rfl (by omega) (by decide), ob]) (N := N) 0 C0 (Nat.zero_le _) (by omega) ⟨fun j _ => rfl, fun g hg => absurd hg (Nat.not_lt_zero g)⟩
  have a3b : C1 106 3 = nI (a 2 + 1) := by rw [b0 106 (by decide)]; exact a3
  have a4b : C1 106 4 = nI (sF a) := by rw [b0 106 (by decide)]; exact a4
  obtain ⟨C2, n2, ⟨d0, d1⟩, e2⟩ := lpN (fun n i (x : kS) => lp_X1_measure_69 N (fun C9 => some C9) n (nI i) x) (fun f x => (∀ j, j ≠ 110 → j ≠ 112 → x j = C1 j) ∧ ∀ g, g < f → x 110 g = nI (rk a g) ∧ x 112 (rk a g) = nI (fw a g)) (sF a) (fun n f x hf hI => by
    obtain ⟨c0, c1⟩ := hI
    have x4 : x 106 4 = nI (sF a) := by rw [c0 106 (by decide) (by decide)]; exact a4b
    have x8 : ∀ f, f < sF a → x 108 f = nI (fw a f) := fun f hf => by rw [c0 108 (by decide) (by decide)]; exact b1 f hf
    have hr := rk_lt hf
    refine ⟨up1 (up1 x 110 (upd (x 110) f (nI (rk a f)))) 112 (upd (x 112) (rk a f) (nI (fw a f))), ⟨fun j h1 h2 => by rw [up1_n h2, up1_n h1]; exact c0 j h1 h2, fun g hg => ?_⟩, ?_⟩
    · rw [up1_s, up1_n (show (110 : Nat) ≠ 112 by decide), up1_s]
      by_cases z : g = f
      · subst z
        rw [pk_us, pk_us]
        exact ⟨rfl, rfl⟩
      · rw [pk_un z, pk_un (fun q => z (rk_inj (by omega) hf q))]
        exact c1 g (by omega)
    · show lp_X1_measure_69 N _ (n + 1) (nI f) x = lp_X1_measure_69 N _ n (nI (f + 1)) _
      rw [lp_X1_measure_69, x4]
      simp (disch := omega) only [q_le, Nat.not_le.mpr hf, ↓reduceIte, x_formsAhead x4 x8 hw hf hN, ob, i_1, nI_add]
      rw [x_put (k := 109) (n := 40) rfl (by omega) (by decide), ob, x_at (k := 107) (n := 40) rfl (by omega) (by decide), ob, x_put (k := 111) (n := 40) rfl (by omega) (by decide), ob]
      simp (disch := decide) only [up1_n, x8 f hf, Nat.reduceAdd]) (N := N) 0 C1 (Nat.zero_le _) (by omega) ⟨fun j _ _ => rfl, fun g hg => absurd hg (Nat.not_lt_zero g)⟩
  refine ⟨C2, ?_, fun j h1 h2 h3 h4 => by rw [d0 j h3 h4, b0 j h2, a0 j h1], ?_, ?_, fun f hf => by rw [d0 108 (by decide) (by decide)]; exact b1 f hf, fun f hf => (d1 f hf).1, fun r hr => ?_⟩
  · refine Eq.trans ?_ (e.trans ?_)
    · rfl
    · show lp_X1_measure_31 N _ (n + 1) (nI (sF a)) C1 = _
      rw [lp_X1_measure_31, a4b]
      simp (disch := omega) only [q_le, Nat.le_refl, ↓reduceIte]
      refine e2.trans ?_
      show lp_X1_measure_69 N _ (n2 + 1) (nI (sF a)) C2 = _
      have q4 : C2 106 4 = nI (sF a) := by rw [d0 106 (by decide) (by decide)]; exact a4b
      rw [lp_X1_measure_69, q4]
      simp (disch := omega) only [q_le, Nat.le_refl, ↓reduceIte]
  · rw [d0 106 (by decide) (by decide)]; exact a3b
  · rw [d0 106 (by decide) (by decide)]; exact a4b
  · have h1 := srt_ok hr
    have h2 := (d1 _ h1.1).2
    rw [h1.2] at h2
    exact h2
end XX2
