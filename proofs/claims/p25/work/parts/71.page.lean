/-! ===== page ===== -/
def put1 (D : kS) (j v : Nat) : kS := up1 D 1 (upd (D 1) j (nI v))
theorem SM_put {M : kS} {a : kA} (h : SM M a) (j v : Nat) : SM (put1 M j v) (un a j v) := h.un j v
theorem put1_n {D : kS} {i j v : Nat} (h : i ≠ 1) : put1 D j v i = D i := up1_n h
section PP1
variable {C M : kS} {a : kA} {N t h ci base wide mw ml : Nat} {c : Nat → Nat} {p : Nat → Nat} {bs : Nat → kA}
theorem pgG_ok (hI : invW ci base wide mw ml a 0) (hci : ci < base) (hwd : wide = ml + 1) (hc : ∀ i, i < t → c i ≤ 126) (hb : ∀ j, j < t → isl (c j) = true → run c j < ml ∧ (run c j = 0 → a ci + wrd c j < mw)) : ∀ i, i ≤ t → (∀ j, j < i → isl (c j) = true → run c j < ml ∧ (run c j = 0 → pgG ci base wide a c j ci < mw)) ∧ pgG ci base wide a c i ci = a ci + wrd c i
  | 0, _ => ⟨fun j hj => absurd hj (Nat.not_lt_zero j), rfl⟩
  | i + 1, hi => by
    obtain ⟨h1, h2⟩ := pgG_ok hI hci hwd hc hb i (by omega)
    have h3 : ∀ j, j < i + 1 → isl (c j) = true → run c j < ml ∧ (run c j = 0 → pgG ci base wide a c j ci < mw) := fun j hj hl => by
      rcases Nat.lt_or_ge j i with q | q
      · exact h1 j q hl
      · have e : j = i := by omega
        subst e
        obtain ⟨b1, b2⟩ := hb j (by omega) hl
        exact ⟨b1, fun q => by rw [h2]; exact b2 q⟩
    refine ⟨h3, ?_⟩
    have hv := pgG_inv hI hci hwd (fun j hj => hc j (by omega)) h1 i (Nat.le_refl _)
    rw [pgG, wrd_s]
    cases z : isl (c i) with
    | false =>
      simp only [Bool.false_eq_true, ↓reduceIte, Bool.false_and, Nat.add_zero]
      exact h2
    | true =>
      simp only [↓reduceIte, Bool.true_and]
      obtain ⟨l1, l2, l3, l4, l5⟩ := lst_f hv (h3 i (Nat.lt_succ_self i) z).2
      rw [addL_ci hci]
      by_cases y : run c i = 0
      · simp only [y, decide_true, ↓reduceIte]
        rw [y] at l5
        have := l5 rfl
        rw [this, h2]
        omega
      · simp only [y, decide_false, Bool.false_eq_true, ↓reduceIte, Nat.add_zero]
        rw [← (l4 y).1, h2]
theorem m_pageS {D : kS} {A : kA} {i r L n : Nat} (hr : r ≤ 200) (ht : t ≤ 200) (hi : i < t) (hA0 : A 0 ≤ 40) (hL : L < 40) (hr12 : r < 12) (e4 : D 0 4 = nI t) (e3 : D 3 i = nI (c i)) (hb2 : 32 ≤ c i ∧ c i ≤ 126) (h97 : 97 ≤ c i ∧ c i ≤ 122) (b1 : SM D A) (l4 : ¬ r = 0 → A 0 = L + 1) (l5 : r = 0 → L = A 0) (kont : kS → Option (Int32 × kS)) : lp_X9_page_27 N kont (n + 1) (nI r) (nI i) D = lp_X9_page_27 N kont n (nI (r + 1)) (nI (i + 1)) (put1 (put1 (put1 D 0 (L + 1)) (34 + 13 * L) (r + 1)) (34 + 13 * L + (r + 1)) (c i - 97)) := by
  unfold put1
  have h32 : ¬ c i = 32 := by omega
  have e10 : D 1 0 = nI (A 0) := b1 0 (by decide)
  rw [lp_X9_page_27, e4]
  simp (disch := omega) only [q_le, Nat.not_le.mpr hi, ↓reduceIte, q_gIn, q_cl, e3, q_eq, h32, i_32, i_0, i_1, e10]
  rw [jn_eq, jn_eq]
  by_cases z : r = 0
  · have e := l5 z
    subst e
    rw [if_pos z]
    simp (disch := omega) only [↓jn_eq, up1_s, pk_us, q_gIn, q_cl, i_34, i_13, q_sub, Nat.add_sub_cancel, pk_mul, nI_add, up1_n (show (3 : Nat) ≠ 1 by decide), e3, i_97]
  · rw [if_neg z]
    simp (disch := omega) only [↓jn_eq, up1_s, pk_us, q_gIn, q_cl, i_34, i_13, q_sub, Nat.add_sub_cancel, Nat.add_zero, l4 z, pk_mul, nI_add, up1_n (show (3 : Nat) ≠ 1 by decide), e3, i_97]
theorem m_pageL (hT : TxC C M t c) (hM : SM M a) (hff : ffr c t t) (hI : invW 0 34 13 40 12 a 0) (kont : kS → Option (Int32 × kS)) (h0 : a 0 = 0) (hN : 3000 ≤ N) : ∃ M', lp_X9_page_27 N kont N (nI 0) (nI 0) M = kont M' ∧ SM M' (pgG 0 34 13 a c t) ∧ ∀ j, j ≠ 1 → M' j = M j := by
  have ht := hT.1
  have hb : ∀ j, j < t → isl (c j) = true → run c j < 12 ∧ (run c j = 0 → a 0 + wrd c j < 40) := fun j hj hl => by
    rcases rsn_0 (hff j hj) with q | q
    · rw [q.1, isl_32] at hl
      cases hl
    · exact ⟨q.2.2.1, fun z => by have := q.2.2.2 z; omega⟩
  have hok := (pgG_ok hI (by decide) rfl (fun i hi => (hT.2.2.2 i hi).1.2) hb t (Nat.le_refl _)).1
  have hinv := pgG_inv hI (by decide) rfl (fun i hi => (hT.2.2.2 i hi).1.2) hok
  obtain ⟨⟨x11, D⟩, n, ⟨g1, b0, b1⟩, e⟩ := lpN (fun n i (y : Int32 × kS) => lp_X9_page_27 N kont n y.1 (nI i) y.2) (fun i y => y.1 = nI (run c i) ∧ (∀ j, j ≠ 1 → y.2 j = M j) ∧ SM y.2 (pgG 0 34 13 a c i)) t (fun n i y hi hJ => by
    obtain ⟨x11, D⟩ := y
    obtain ⟨g1, b0, b1⟩ := hJ
    simp only at g1 b0 b1
    subst g1
    have e3 : D 3 i = nI (c i) := by rw [b0 3 (by decide)]; exact (hT.2.2.2 i hi).2.2
    have e4 : D 0 4 = nI t := by rw [b0 0 (by decide)]; exact hT.2.2.1
    have hb2 := (hT.2.2.2 i hi).1
    have hrl := run_le c i
    rcases rsn_0 (hff i hi) with q | q
    · refine ⟨(nI 0, D), ⟨?_, b0, ?_⟩, ?_⟩
      · simp only [run, q.1, isl_32, Bool.false_eq_true, ↓reduceIte]
      · simp only [pgG, q.1, isl_32, Bool.false_eq_true, ↓reduceIte]
        exact b1
      · show lp_X9_page_27 N kont (n + 1) (nI (run c i)) (nI i) D = lp_X9_page_27 N kont n (nI 0) (nI (i + 1)) D
        rw [lp_X9_page_27, e4]
        simp (disch := omega) only [q_le, Nat.not_le.mpr hi, ↓reduceIte, q_gIn, q_cl, e3, q.1, i_32, i_0, ↓jn_eq, i_1, nI_add]
    · obtain ⟨k1, k2⟩ := hok i hi q.1
      obtain ⟨l1, l2, l3, l4, l5⟩ := lst_f (hinv i (by omega)) k2
      have hw2 := hinv i (by omega)
      have hs := SM_put (SM_put (SM_put b1 0 (lstW 0 (pgG 0 34 13 a c i) (run c i) + 1)) (34 + 13 * lstW 0 (pgG 0 34 13 a c i) (run c i)) (run c i + 1)) (34 + 13 * lstW 0 (pgG 0 34 13 a c i) (run c i) + (run c i + 1)) (c i - 97)
      have h97 : 97 ≤ c i ∧ c i ≤ 122 := of_decide_eq_true q.1
      refine ⟨(nI (run c i + 1), put1 (put1 (put1 D 0 (lstW 0 (pgG 0 34 13 a c i) (run c i) + 1)) (34 + 13 * lstW 0 (pgG 0 34 13 a c i) (run c i)) (run c i + 1)) (34 + 13 * lstW 0 (pgG 0 34 13 a c i) (run c i) + (run c i + 1)) (c i - 97)), ⟨?_, ?_, ?_⟩, ?_⟩
      · simp only [run, q.1, ↓reduceIte]
      · intro j hj
        simp only []
        rw [put1_n hj, put1_n hj, put1_n hj]
        exact b0 j hj
      · simp only [pgG, q.1, ↓reduceIte]
        exact hs
      · show lp_X9_page_27 N kont (n + 1) (nI (run c i)) (nI i) D = lp_X9_page_27 N kont n (nI (run c i + 1)) (nI (i + 1)) (put1 (put1 (put1 D 0 (lstW 0 (pgG 0 34 13 a c i) (run c i) + 1)) (34 + 13 * lstW 0 (pgG 0 34 13 a c i) (run c i)) (run c i + 1)) (34 + 13 * lstW 0 (pgG 0 34 13 a c i) (run c i) + (run c i + 1)) (c i - 97))
        exact m_pageS (by omega) ht hi (by have := hw2.1; omega) l1 k1 e4 e3 hb2 h97 b1 (fun z => (l4 z).1) l5 kont) (N := N) 0 (nI 0, M) (Nat.zero_le _) (by omega) ⟨rfl, fun j _ => rfl, hM⟩
  simp only at g1 b0 b1
  refine ⟨D, e.trans ?_, b1, b0⟩
  show lp_X9_page_27 N kont (n + 1) x11 (nI t) D = _
  rw [lp_X9_page_27, b0 0 (by decide), hT.2.2.1]
  simp (disch := omega) only [q_le, Nat.le_refl, ↓reduceIte]
theorem J_page (hR : RD C M a) (hH : HsC C M h p bs) (hT : TxC C M t c) (hN : 3000 ≤ N) : ∃ r C' M', f_X8_page N C = some (r, C') ∧ f_X9_page N M = some (r, M') ∧ Rl C' M' := by
  obtain ⟨M1, e1, m1, m2, m3⟩ := m_faultAt (N := N) hT hN
  have hle : fltI c t ≤ t := fst_le _ _
  have ht := hT.1
  have hT1 : TxC C M1 t c := hT.cgM (m1 3 (by decide)) (m2 4 (by decide))
  have hH1 : HsC C M1 h p bs := hH.cg (fun _ _ _ => rfl) (m1 2 (by decide)) (m2 2 (by decide))
  obtain ⟨hw, hM, hS, hD⟩ := hR
  have hM1 : SM M1 a := fun i hi => by rw [m1 1 (by decide)]; exact hM i hi
  unfold f_X8_page f_X9_page
  rw [x_faultIndex hT hN, e1, ob, ob]
  by_cases z : fltI c t < t
  · refine ⟨-12, C, M1, ?_, ?_, a, h, p, bs, t, c, ⟨hw, hM1, hS, hD⟩, hH1, hT1⟩
    · rw [if_pos z, if_neg (nI_pos (by omega))]
    · simp (disch := omega) only [z, ↓reduceIte, q_m14]
  · have hff : ffr c t t := by
      have := fltI_ff c t
      rw [show fltI c t = t by omega] at this
      exact this
    obtain ⟨C2, M2, h', p', bs', e2, e3, hH2, kc, km⟩ := J_keep (N := N) hH1 hw hM1 hS hN
    have hS2 : StC C2 4 a := hS.cg (fun j _ _ => kc j (by omega))
    have hM2 : SM M2 a := fun i hi => by rw [km.1 1 (by decide) (by decide)]; exact hM1 i hi
    have hT2 : TxC C2 M2 t c := (hT1.cgM (km.1 3 (by decide) (by decide)) (km.2 4 (by decide))).cgC (by rw [kc 1 (by decide)]) (kc 3 (by decide))
    -- the page is emptied
    have hI0 : invW 0 34 13 40 12 (un a 0 0) 0 := ⟨by rw [un_s]; exact Nat.zero_le _, fun w hw => by rw [un_s] at hw; exact absurd hw (Nat.not_lt_zero w), fun q => absurd rfl q⟩
    have hM3 : SM (up1 M2 1 (upd (M2 1) 0 (nI 0))) (un a 0 0) := hM2.un 0 0
    have hT3 : TxC (up1 C2 5 (upd (C2 5) 4 (nI 0))) (up1 M2 1 (upd (M2 1) 0 (nI 0))) t c := (hT2.cgM (up1_n (by decide)) (by rw [up1_n (by decide)])).cgC (by rw [up1_n (by decide)]) (up1_n (by decide))
    have hW3 : WdC (up1 C2 5 (upd (C2 5) 4 (nI 0))) 5 40 12 (un a 0 0) ((un a 0 0) 0) 34 13 := ⟨by rw [up1_s, pk_un (by decide)]; exact hS2.1.1, by rw [up1_s, pk_un (by decide)]; exact hS2.1.2.1, by rw [up1_s, pk_us, un_s], fun w hw => by rw [un_s] at hw; exact absurd hw (Nat.not_lt_zero w)⟩
    have hb : ∀ j, j < t → isl (c j) = true → run c j < 12 ∧ (run c j = 0 → (un a 0 0) 0 + wrd c j < 40) := fun j hj hl => by
      rcases rsn_0 (hff j hj) with q | q
      · rw [q.1, isl_32] at hl
        cases hl
      · exact ⟨q.2.2.1, fun z => by have := q.2.2.2 z; rw [un_s]; omega⟩
    obtain ⟨hok, _⟩ := pgG_ok hI0 (by decide) rfl (fun i hi => (hT.2.2.2 i hi).1.2) hb t (Nat.le_refl _)
    obtain ⟨C4, e4, hW4, x4⟩ := x_addWords (N := N) hT3 hW3 hI0 (by decide) rfl (by decide) (by decide) rfl rfl (by decide) hok hN
    obtain ⟨M4, e5, hM4, y4⟩ := m_pageL (N := N) hT3 hM3 hff hI0 (fun C8 => gIn 0 642 (some (C8 1 (0 : Int32).toNatClampNeg, C8))) un_s hN
    have hv := pgG_inv hI0 (by decide) rfl (fun i hi => (hT.2.2.2 i hi).1.2) hok t (Nat.le_refl _)
    have hout := fun j (hj : j ≠ 0) (hj2 : j < 34 ∨ 554 ≤ j) => pgG_out hI0 (by decide) rfl (fun i hi => (hT.2.2.2 i hi).1.2) hok hj hj2 t (Nat.le_refl _)
    obtain ⟨hw4, hS4⟩ := chgP (C' := C4) (a' := pgG 0 34 13 (un a 0 0) c t) hw hS2 (fun j j5 j7 j9 => by rw [x4 j j5 j7 j9, up1_n j5]) hW4 ⟨hv.1, hv.2.1⟩ (fun j j0 j2 => by rw [hout j j0 j2, un_n j0])
    have hH4 : HsC C4 M4 h' p' bs' := hH2.cg (fun j j1 j2 => by rw [x4 j (by omega) (by omega) (by omega), up1_n (by omega)]) (by rw [y4 2 (by decide), up1_n (by decide)]) (by rw [y4 0 (by decide), up1_n (by decide)])
    have hT4 : TxC C4 M4 t c := (hT3.cgM (y4 3 (by decide)) (by rw [y4 0 (by decide)])).cgC (by rw [x4 1 (by decide) (by decide) (by decide)]) (x4 3 (by decide) (by decide) (by decide))
    obtain ⟨C5, e6, x5, hR5⟩ := J_fin (N := N) hw4 hM4 hS4 hH4 hT4 hN
    refine ⟨nI (pgG 0 34 13 (un a 0 0) c t 0), C5, M4, ?_, ?_, hR5⟩
    · rw [if_neg z, if_pos (by decide), e2, ob]
      unfold f_X7_empty
      simp only [jn_eq, ob, i_0]
      rw [e4, ob, e6, ob]
      unfold f_X7_size
      rw [x5 5 (by decide), hW4.2.2.1, ob]
    · rw [if_neg z, if_pos rfl, e3, ob]
      have e7 : gIn 0 642 (jn (up1 M2 1 (upd (M2 1) ((0 : Int32).toNatClampNeg) 0)) (fun C7 : kS => jn (fun (C8 : kS) => gIn 0 642 (some (C8 1 (0 : Int32).toNatClampNeg, C8))) (fun k117_8 => lp_X9_page_27 N k117_8 N 0 0 C7))) = lp_X9_page_27 N (fun C8 => gIn 0 642 (some (C8 1 (0 : Int32).toNatClampNeg, C8))) N (nI 0) (nI 0) (up1 M2 1 (upd (M2 1) 0 (nI 0))) := by
        simp (disch := omega) only [i_0, q_gIn, q_cl, jn_eq]
      rw [e7, e5]
      simp (disch := omega) only [i_0, q_gIn, q_cl, hM4 _]
end PP1
