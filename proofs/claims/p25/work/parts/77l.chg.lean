/-! ===== changes, with the state that comes out (M is a shadow: what the reference would hold) ===== -/
def RA (C M : kS) (a : kA) (t : Nat) (c : Nat → Nat) : Prop := ∃ h p bs, RD C M a ∧ HsC C M h p bs ∧ TxC C M t c
section EE
variable {C M : kS} {a : kA} {N t h ci base wide mw ml k : Nat} {c : Nat → Nat} {p : Nat → Nat} {bs : Nat → kA}
theorem RA.rc (h : RA C M a t c) : RC C a := by
  obtain ⟨_, _, _, ⟨hw, hM, hS, hD⟩, -, -⟩ := h
  exact ⟨hw, hS, hD⟩
theorem RA.tx (h : RA C M a t c) : TxC C M t c := by
  obtain ⟨_, _, _, -, -, hT⟩ := h
  exact hT
theorem E_fin (hw : WF a) (hS : StC C 4 a) (hH : HsC C M h p bs) (hT : TxC C M t c) (hN : 3000 ≤ N) : ∃ C' M', f_X8_workOut N C = some C' ∧ (∀ j, j < 106 → C' j = C j) ∧ RA C' M' a t c := by
  obtain ⟨C1, e1, x1, hD⟩ := x_workOut (N := N) hS hw hN
  exact ⟨C1, up1 M 1 (fun i => nI (a i)), e1, x1, h, p, bs, ⟨hw, fun i _ => by rw [up1_s], hS.cg (fun j _ _ => x1 j (by omega)), hD⟩, hH.cg (fun j _ j2 => x1 j j2) (up1_n (by decide)) (by rw [up1_n (by decide)]), (hT.cgM (up1_n (by decide)) (by rw [up1_n (by decide)])).cgC (by rw [x1 1 (by decide)]) (x1 3 (by decide))⟩
theorem E_type (hR : RA C M a t c) (ht : t < 200) {x : Nat} (h1 : 32 ≤ x) (h2 : x ≤ 126) : ∃ C' M', f_X8_type N C (nI x) = some (nI (t + 1), C') ∧ RA C' M' a (t + 1) (fun i => if i = t then x else c i) := by
  obtain ⟨h, p, bs, ⟨hw, hM, hS, hF, hB, hHd, hSh⟩, hH, hT⟩ := hR
  obtain ⟨ht2, c1, c2, c3⟩ := id hT
  have hC : ∀ j, j ≠ 1 → j ≠ 3 → up1 (up1 C 3 (upd (C 3) t (nI x))) 1 (upd (C 1) 1 (nI (t + 1))) j = C j := fun j j1 j3 => by rw [up1_n j1, up1_n j3]
  refine ⟨up1 (up1 C 3 (upd (C 3) t (nI x))) 1 (upd (C 1) 1 (nI (t + 1))), up1 (up1 M 3 (upd (M 3) t (nI x))) 0 (upd (M 0) 4 (nI (t + 1))), ?_, h, p, bs, ⟨hw, fun i hi => by rw [up1_n (by decide), up1_n (by decide)]; exact hM i hi, hS.cg (fun j _ _ => hC j (by omega) (by omega)), hF.cg (hC 106 (by decide) (by decide)) (hC 108 (by decide) (by decide)) (hC 110 (by decide) (by decide)) (hC 112 (by decide) (by decide)), hB.cg (hC 115 (by decide) (by decide)), hHd.cg (hC 121 (by decide) (by decide)) (hC 123 (by decide) (by decide)), ?_⟩, hH.cg (fun j _ _ => hC j (by omega) (by omega)) (by rw [up1_n (by decide), up1_n (by decide)]) (by rw [up1_s, pk_un (by decide)]), ⟨by omega, ?_, ?_, fun i hi => ?_⟩⟩
  · unfold f_X8_type f_X6_size
    rw [i_32, i_126, if_neg (fun q => by have := (nI_ltI (by omega) (by decide)).mp q; omega), if_pos ((nI_leI (by omega) (by decide)).mpr h2), ob, c1, i_200, if_pos ((nI_ltI (by omega) (by decide)).mpr ht)]
    unfold f_X6_append
    rw [c1, i_200, if_neg (fun q => by have := (nI_leI (by decide) (by omega)).mp q; omega), x_put (k := 2) (n := 200) rfl (by omega) (by decide)]
    simp only [ob, ↓jn_eq, up1_n (show (1 : Nat) ≠ 3 by decide), up1_n (show (1 : Nat) ≠ 2 + 1 by decide), c1, i_1, nI_add, up1_s, pk_us]
  · unfold ShC
    rw [hC 119 (by decide) (by decide), hC 125 (by decide) (by decide), hC 127 (by decide) (by decide), hC 129 (by decide) (by decide), hC 131 (by decide) (by decide)]
    exact hSh
  · rw [up1_s, pk_us]
  · rw [up1_s, pk_us]
  · rw [up1_n (show (3 : Nat) ≠ 1 by decide), up1_s, up1_n (show (3 : Nat) ≠ 0 by decide), up1_s]
    by_cases z : i = t
    · subst z
      simp only [↓reduceIte, pk_us]
      exact ⟨⟨h1, h2⟩, trivial, trivial⟩
    · simp only [z, ↓reduceIte, pk_un z]
      exact c3 i (by omega)
theorem E_clear (hR : RA C M a t c) : ∃ C' M', f_X8_clearText N C = some (nI t, C') ∧ RA C' M' a 0 c := by
  obtain ⟨h, p, bs, ⟨hw, hM, hS, hF, hB, hHd, hSh⟩, hH, hT⟩ := hR
  obtain ⟨ht2, c1, c2, c3⟩ := id hT
  have hC : ∀ j, j ≠ 1 → j ≠ 3 → up1 C 1 (upd (C 1) 1 (nI 0)) j = C j := fun j j1 j3 => up1_n j1
  refine ⟨up1 C 1 (upd (C 1) 1 (nI 0)), up1 M 0 (upd (M 0) 4 (nI 0)), ?_, h, p, bs, ⟨hw, fun i hi => by rw [up1_n (by decide)]; exact hM i hi, hS.cg (fun j _ _ => hC j (by omega) (by omega)), hF.cg (hC 106 (by decide) (by decide)) (hC 108 (by decide) (by decide)) (hC 110 (by decide) (by decide)) (hC 112 (by decide) (by decide)), hB.cg (hC 115 (by decide) (by decide)), hHd.cg (hC 121 (by decide) (by decide)) (hC 123 (by decide) (by decide)), ?_⟩, hH.cg (fun j _ _ => hC j (by omega) (by omega)) (up1_n (by decide)) (by rw [up1_s, pk_un (by decide)]), ⟨Nat.zero_le _, ?_, ?_, fun i hi => absurd hi (Nat.not_lt_zero i)⟩⟩
  · unfold f_X8_clearText f_X6_size f_X6_empty
    simp only [ob, ↓jn_eq, c1, i_0]
  · unfold ShC
    rw [hC 119 (by decide) (by decide), hC 125 (by decide) (by decide), hC 127 (by decide) (by decide), hC 129 (by decide) (by decide), hC 131 (by decide) (by decide)]
    exact hSh
  · rw [up1_s, pk_us]
  · rw [up1_s, pk_us]
theorem E_keep (hR : RA C M a t c) (hN : 3000 ≤ N) : ∃ C2 M2 h' p' bs', f_X2_keep N C = some C2 ∧ StC C2 4 a ∧ SM M2 a ∧ HsC C2 M2 h' p' bs' ∧ TxC C2 M2 t c := by
  obtain ⟨h, p, bs, ⟨hw, hM, hS, hD⟩, hH, hT⟩ := hR
  obtain ⟨C2, M2, h', p', bs', e2, e3, hH2, kc, km⟩ := J_keep (N := N) hH hw hM hS hN
  exact ⟨C2, M2, h', p', bs', e2, hS.cg (fun j _ _ => kc j (by omega)), fun i hi => by rw [km.1 1 (by decide) (by decide)]; exact hM i hi, hH2, (hT.cgM (km.1 3 (by decide) (by decide)) (km.2 4 (by decide))).cgC (by rw [kc 1 (by decide)]) (kc 3 (by decide))⟩
theorem E_page (hR : RA C M a t c) (hff : fltI c t = t) (hN : 3000 ≤ N) : ∃ C' M', f_X8_page N C = some (nI (pgG 0 34 13 (un a 0 0) c t 0), C') ∧ RA C' M' (pgG 0 34 13 (un a 0 0) c t) t c := by
  have hT := hR.tx
  have hw := hR.rc.1
  have hff2 : ffr c t t := by
    have := fltI_ff c t
    rw [hff] at this
    exact this
  obtain ⟨C2, M2, h', p', bs', e2, hS2, hM2, hH2, hT2⟩ := E_keep hR hN
  have hI0 : invW 0 34 13 40 12 (un a 0 0) 0 := ⟨by rw [un_s]; exact Nat.zero_le _, fun w hw => by rw [un_s] at hw; exact absurd hw (Nat.not_lt_zero w), fun q => absurd rfl q⟩
  have hT3 : TxC (up1 C2 5 (upd (C2 5) 4 (nI 0))) M2 t c := hT2.cgC (by rw [up1_n (by decide)]) (up1_n (by decide))
  have hW3 : WdC (up1 C2 5 (upd (C2 5) 4 (nI 0))) 5 40 12 (un a 0 0) ((un a 0 0) 0) 34 13 := ⟨by rw [up1_s, pk_un (by decide)]; exact hS2.1.1, by rw [up1_s, pk_un (by decide)]; exact hS2.1.2.1, by rw [up1_s, pk_us, un_s], fun w hw => by rw [un_s] at hw; exact absurd hw (Nat.not_lt_zero w)⟩
  have hb : ∀ j, j < t → isl (c j) = true → run c j < 12 ∧ (run c j = 0 → (un a 0 0) 0 + wrd c j < 40) := fun j hj hl => by
    rcases rsn_0 (hff2 j hj) with q | q
    · rw [q.1, isl_32] at hl
      cases hl
    · exact ⟨q.2.2.1, fun z => by have := q.2.2.2 z; rw [un_s]; omega⟩
  obtain ⟨hok, _⟩ := pgG_ok hI0 (by decide) rfl (fun i hi => (hT.2.2.2 i hi).1.2) hb t (Nat.le_refl _)
  obtain ⟨C4, e4, hW4, x4⟩ := x_addWords (N := N) hT3 hW3 hI0 (by decide) rfl (by decide) (by decide) rfl rfl (by decide) hok hN
  have hv := pgG_inv hI0 (by decide) rfl (fun i hi => (hT.2.2.2 i hi).1.2) hok t (Nat.le_refl _)
  have hout := fun j (hj : j ≠ 0) (hj2 : j < 34 ∨ 554 ≤ j) => pgG_out hI0 (by decide) rfl (fun i hi => (hT.2.2.2 i hi).1.2) hok hj hj2 t (Nat.le_refl _)
  obtain ⟨hw4, hS4⟩ := chgP (C' := C4) (a' := pgG 0 34 13 (un a 0 0) c t) hw hS2 (fun j j5 j7 j9 => by rw [x4 j j5 j7 j9, up1_n j5]) hW4 ⟨hv.1, hv.2.1⟩ (fun j j0 j2 => by rw [hout j j0 j2, un_n j0])
  have hH4 : HsC C4 M2 h' p' bs' := hH2.cg (fun j j1 j2 => by rw [x4 j (by omega) (by omega) (by omega), up1_n (by omega)]) rfl rfl
  have hT4 : TxC C4 M2 t c := hT3.cgC (by rw [x4 1 (by decide) (by decide) (by decide)]) (x4 3 (by decide) (by decide) (by decide))
  obtain ⟨C5, M5, e6, x5, hR5⟩ := E_fin (N := N) hw4 hS4 hH4 hT4 hN
  refine ⟨C5, M5, ?_, hR5⟩
  unfold f_X8_page
  rw [x_faultIndex hT hN, hff, if_neg (Nat.lt_irrefl t), ob, if_pos (by decide), e2, ob]
  unfold f_X7_empty
  simp only [jn_eq, ob, i_0]
  rw [e4, ob, e6, ob]
  unfold f_X7_size
  rw [x5 5 (by decide), hW4.2.2.1, ob]
theorem E_makeF (hR : RA C M a t c) (hW : WdC C k mw ml a (a ci) base wide) (hwl : WL a base wide ml (a ci)) (hn : a ci ≤ mw) (hmw : mw ≤ 40) (hml : ml ≤ 12) (l2 : ln (k + 2) = mw * ml) (l4 : ln (k + 4) = mw) (hno : oneW c t ml = false ∨ ∃ w, w < a ci ∧ eqW a base wide t c w = true) (hN : 3000 ≤ N) : f_X8_addTextTo N C k = some (-12, C) := by
  have hT := hR.tx
  unfold f_X8_addTextTo f_X7_greatestLength
  rw [hW.2.1, ob, x_oneWord hT (by omega) hN, ob, i_0]
  cases z : oneW c t ml with
  | false => simp only [Bool.false_eq_true, ↓reduceIte]
  | true =>
    obtain ⟨ht2, hl⟩ := oneW_t z
    rcases hno with q | ⟨w, w1, w2⟩
    · rw [z] at q
      cases q
    · have y : fst (eqW a base wide t c) (a ci) < a ci := by
        rcases Nat.lt_or_ge (fst (eqW a base wide t c) (a ci)) (a ci) with q | q
        · exact q
        · have := fst_no (eqW a base wide t c) (a ci) w (by omega)
          rw [w2] at this
          cases this
      rw [x_hasWord hT hW hwl l2 l4 hmw hml hn hl hN]
      simp only [y, ↓reduceIte, q_nT, ob]
theorem E_make (hR : RA C M a t c) (hW : ∀ D : kS, StC D 4 a → WdC D k mw ml a (a ci) base wide) (hwl : WL a base wide ml (a ci)) (hlt : a ci < mw) (hwd : wide = ml + 1) (hmw : mw ≤ 40) (hml : ml ≤ 12) (hci : ci < base) (hb : base + wide * mw ≤ 642) (l2 : ln (k + 2) = mw * ml) (l4 : ln (k + 4) = mw) (hk : 5 ≤ k ∧ k + 4 < 24) (hchg : ∀ (D D' : kS) (a' : kA), StC D 4 a → (∀ j, j ≠ k → j ≠ k + 2 → j ≠ k + 4 → D' j = D j) → WdC D' k mw ml a' (a' ci) base wide → a' ci ≤ mw ∧ WL a' base wide ml (a' ci) → (∀ j, j ≠ ci → (j < base ∨ base + wide * mw ≤ j) → a' j = a j) → WF a' ∧ StC D' 4 a') (hone : oneW c t ml = true) (hno : ∀ w, w < a ci → eqW a base wide t c w = false) (hN : 3000 ≤ N) : ∃ C' M', f_X8_addTextTo N C k = some (nI (a ci), C') ∧ RA C' M' (pgG ci base wide a c t) t c := by
  have hT := hR.tx
  have hS := hR.rc.2.1
  have hw := hR.rc.1
  have ht := hT.1
  have hWC := hW C hS
  have hn : a ci ≤ mw := by omega
  obtain ⟨ht2, hl⟩ := oneW_t hone
  have hfst : fst (eqW a base wide t c) (a ci) = a ci := fst_none hno
  have hfull : f_X7_isFull N C k = some (nI 0) := by
    unfold f_X7_isFull
    rw [hWC.1, hWC.2.2.1]
    simp only [jn_eq]
    rw [if_pos ((nI_ltI (by omega) (by omega)).mpr (by omega))]
    rfl
  obtain ⟨C2, M2, h', p', bs', e2, hS2, hM2, hH2, hT2⟩ := E_keep hR hN
  have hI0 : invW ci base wide mw ml a 0 := ⟨hn, hwl, fun q => absurd rfl q⟩
  have hok : ∀ i, i < t → isl (c i) = true → run c i < ml ∧ (run c i = 0 → pgG ci base wide a c i ci < mw) := fun i hi _ => by
    rw [run_all hl i (by omega)]
    refine ⟨by omega, fun q => ?_⟩
    rw [q]
    exact hlt
  obtain ⟨C4, e4, hW4, x4⟩ := x_addWords (N := N) hT2 (hW C2 hS2) hI0 hci hwd hmw hml l2 l4 hk.1 hok hN
  have hv := pgG_inv hI0 hci hwd (fun i hi => (hT2.2.2.2 i hi).1.2) hok t (Nat.le_refl _)
  have hout := fun j (hj : j ≠ ci) (hj2 : j < base ∨ base + wide * mw ≤ j) => pgG_out hI0 hci hwd (fun i hi => (hT2.2.2.2 i hi).1.2) hok hj hj2 t (Nat.le_refl _)
  obtain ⟨hw4, hS4⟩ := hchg C2 C4 (pgG ci base wide a c t) hS2 x4 hW4 ⟨hv.1, hv.2.1⟩ hout
  have hall := pgG_all (a := a) (wide := wide) hci hl (t - 1) (by omega)
  rw [show t - 1 + 1 = t by omega] at hall
  have hH4 : HsC C4 M2 h' p' bs' := hH2.cg (fun j j1 j2 => by rw [x4 j (by omega) (by omega) (by omega)]) rfl rfl
  have hT4 : TxC C4 M2 t c := hT2.cgC (by rw [x4 1 (by omega) (by omega) (by omega)]) (x4 3 (by omega) (by omega) (by omega))
  obtain ⟨C5, M5, e6, x5, hR5⟩ := E_fin (N := N) hw4 hS4 hH4 hT4 hN
  have hci2 : pgG ci base wide a c t ci = a ci + 1 := by rw [hall ci, if_pos rfl]
  refine ⟨C5, M5, ?_, hR5⟩
  unfold f_X8_addTextTo f_X7_greatestLength
  rw [hWC.2.1, ob, x_oneWord hT (by omega) hN, ob, i_0, hone]
  simp only [jn_eq]
  rw [x_hasWord hT hWC hwl l2 l4 hmw hml hn hl hN, hfst]
  simp (disch := omega) only [Nat.lt_irrefl, ↓reduceIte, q_nT, ob, hfull]
  rw [e2, ob, e4, ob, e6, ob]
  unfold f_X7_size
  rw [x5 k (by omega), hW4.2.2.1, ob, hci2, i_1, q_sub (by omega), Nat.add_sub_cancel]
theorem E_name (hR : RA C M a t c) (hlt : a 1 < 8) (hone : oneW c t 8 = true) (hno : ∀ w, w < a 1 → eqW a 554 9 t c w = false) (hN : 3000 ≤ N) : ∃ C' M', f_X8_name N C = some (nI (a 1), C') ∧ RA C' M' (pgG 1 554 9 a c t) t c := by
  have hw := hR.rc.1
  obtain ⟨C', M', e1, e3⟩ := E_make (N := N) (ci := 1) (base := 554) (wide := 9) (mw := 8) (ml := 8) (k := 10) hR (fun D hS => hS.2.1) hw.2.2.2.2.2.2.2.2.2.2.1 hlt rfl (by decide) (by decide) (by decide) (by decide) rfl rfl (by decide) (fun D D' a' hS x g1 g2 g3 => chgN hw hS x g1 g2 (fun j h1 h2 => g3 j h1 (by omega))) hone hno hN
  refine ⟨C', M', ?_, e3⟩
  unfold f_X8_name
  rw [e1, ob]
theorem E_nameF (hR : RA C M a t c) (hno : oneW c t 8 = false ∨ ∃ w, w < a 1 ∧ eqW a 554 9 t c w = true) (hN : 3000 ≤ N) : f_X8_name N C = some (-12, C) := by
  have hw := hR.rc.1
  unfold f_X8_name
  rw [E_makeF (N := N) (ci := 1) (base := 554) (wide := 9) (mw := 8) (ml := 8) (k := 10) hR hR.rc.2.1.2.1 hw.2.2.2.2.2.2.2.2.2.2.1 hw.2.1 (by decide) (by decide) rfl rfl hno hN, ob]
theorem E_ending (hR : RA C M a t c) (hlt : a 2 < 4) (hone : oneW c t 3 = true) (hno : ∀ w, w < a 2 → eqW a 626 4 t c w = false) (hN : 3000 ≤ N) : ∃ C' M', f_X8_ending N C = some (nI (a 2), C') ∧ RA C' M' (pgG 2 626 4 a c t) t c := by
  have hw := hR.rc.1
  obtain ⟨C', M', e1, e3⟩ := E_make (N := N) (ci := 2) (base := 626) (wide := 4) (mw := 4) (ml := 3) (k := 15) hR (fun D hS => hS.2.2.1) hw.2.2.2.2.2.2.2.2.2.2.2 hlt rfl (by decide) (by decide) (by decide) (by decide) rfl rfl (by decide) (fun D D' a' hS x g1 g2 g3 => chgE hw hS x g1 g2 (fun j h1 h2 => g3 j h1 (by omega))) hone hno hN
  refine ⟨C', M', ?_, e3⟩
  unfold f_X8_ending
  rw [e1, ob]
theorem E_endingF (hR : RA C M a t c) (hno : oneW c t 3 = false ∨ ∃ w, w < a 2 ∧ eqW a 626 4 t c w = true) (hN : 3000 ≤ N) : f_X8_ending N C = some (-12, C) := by
  have hw := hR.rc.1
  unfold f_X8_ending
  rw [E_makeF (N := N) (ci := 2) (base := 626) (wide := 4) (mw := 4) (ml := 3) (k := 15) hR hR.rc.2.1.2.2.1 hw.2.2.2.2.2.2.2.2.2.2.2 hw.2.2.1 (by decide) (by decide) rfl rfl hno hN, ob]
theorem E_drop {w : Nat} (hR : RA C M a t c) (hW : ∀ D : kS, StC D 4 a → WdC D k mw ml a (a ci) base wide) (hwl : WL a base wide ml (a ci)) (hn : a ci ≤ mw) (hwd : wide = ml + 1) (hmw : mw ≤ 40) (hml : ml ≤ 12) (hci : ci < base) (l2 : ln (k + 2) = mw * ml) (l4 : ln (k + 4) = mw) (hk : 5 ≤ k ∧ k + 4 < 24) (hchg : ∀ (D D' : kS) (a' : kA), StC D 4 a → (∀ j, j ≠ k → j ≠ k + 2 → j ≠ k + 4 → D' j = D j) → WdC D' k mw ml a' (a' ci) base wide → a' ci ≤ mw ∧ WL a' base wide ml (a' ci) → (∀ j, j ≠ ci → (j < base ∨ base + wide * mw ≤ j) → a' j = a j) → WF a' ∧ StC D' 4 a') (hwn : w < a ci) (hN : 3000 ≤ N) : ∃ C' M', f_X8_dropFrom N C k (nI w) = some (nI (a ci - 1), C') ∧ RA C' M' (rmv ci base wide w a) t c := by
  have hT := hR.tx
  have hS := hR.rc.2.1
  have hw := hR.rc.1
  have hWC := hW C hS
  obtain ⟨C2, M2, h', p', bs', e2, hS2, hM2, hH2, hT2⟩ := E_keep hR hN
  obtain ⟨C4, e4, hW4, x4⟩ := x_remove (N := N) (w := w) (hW C2 hS2) (fun w hwd => (hwl w hwd).1.2) hn hwn hci hwd hmw hml l2 l4 hN
  have hci2 : rmv ci base wide w a ci = a ci - 1 := by unfold rmv; rw [if_pos rfl]
  obtain ⟨hw4, hS4⟩ := hchg C2 C4 (rmv ci base wide w a) hS2 x4 hW4 ⟨by rw [hci2]; omega, by rw [hci2]; exact rmv_inv hwl hwn hci hwd⟩ (fun j h1 h2 => by
    have h5 := Nat.mul_le_mul_left wide (show a ci - 1 ≤ mw by omega)
    unfold rmv
    rw [if_neg h1, if_neg (by omega)])
  have hH4 : HsC C4 M2 h' p' bs' := hH2.cg (fun j j1 j2 => by rw [x4 j (by omega) (by omega) (by omega)]) rfl rfl
  have hT4 : TxC C4 M2 t c := hT2.cgC (by rw [x4 1 (by omega) (by omega) (by omega)]) (x4 3 (by omega) (by omega) (by omega))
  obtain ⟨C5, M5, e6, x5, hR5⟩ := E_fin (N := N) hw4 hS4 hH4 hT4 hN
  refine ⟨C5, M5, ?_, hR5⟩
  unfold f_X8_dropFrom
  rw [x_hasN hWC.2.2.1 (by omega) (by omega), ob, if_pos hwn, i_0, if_neg (by rw [q_nT]; exact not_false), e2, ob, e4, ob, e6, ob]
  unfold f_X7_size
  rw [x5 k (by omega), hW4.2.2.1, ob, hci2]
theorem E_dropF (hW : WdC C k mw ml a (a ci) base wide) (hn : a ci ≤ 40) : f_X8_dropFrom N C k (nI (a ci)) = some (-11, C) := by
  unfold f_X8_dropFrom
  rw [x_hasN hW.2.2.1 (by omega) (by omega), ob, if_neg (Nat.lt_irrefl _), i_0, if_pos rfl]
theorem E_dropName {w : Nat} (hR : RA C M a t c) (hwn : w < a 1) (hN : 3000 ≤ N) : ∃ C' M', f_X8_dropName N C (nI w) = some (nI (a 1 - 1), C') ∧ RA C' M' (rmv 1 554 9 w a) t c := by
  have hw := hR.rc.1
  obtain ⟨C', M', e1, e3⟩ := E_drop (N := N) (ci := 1) (base := 554) (wide := 9) (mw := 8) (ml := 8) (k := 10) hR (fun D hS => hS.2.1) hw.2.2.2.2.2.2.2.2.2.2.1 hw.2.1 rfl (by decide) (by decide) (by decide) rfl rfl (by decide) (fun D D' a' hS x g1 g2 g3 => chgN hw hS x g1 g2 (fun j h1 h2 => g3 j h1 (by omega))) hwn hN
  refine ⟨C', M', ?_, e3⟩
  unfold f_X8_dropName
  rw [e1, ob]
theorem E_dropNameF (hR : RA C M a t c) : f_X8_dropName N C (nI (a 1)) = some (-11, C) := by
  have hw := hR.rc.1
  have := hw.2.1
  unfold f_X8_dropName
  rw [E_dropF (N := N) (ci := 1) (k := 10) hR.rc.2.1.2.1 (by omega), ob]
theorem E_dropEnding {w : Nat} (hR : RA C M a t c) (hwn : w < a 2) (hN : 3000 ≤ N) : ∃ C' M', f_X8_dropEnding N C (nI w) = some (nI (a 2 - 1), C') ∧ RA C' M' (rmv 2 626 4 w a) t c := by
  have hw := hR.rc.1
  obtain ⟨C', M', e1, e3⟩ := E_drop (N := N) (ci := 2) (base := 626) (wide := 4) (mw := 4) (ml := 3) (k := 15) hR (fun D hS => hS.2.2.1) hw.2.2.2.2.2.2.2.2.2.2.2 hw.2.2.1 rfl (by decide) (by decide) (by decide) rfl rfl (by decide) (fun D D' a' hS x g1 g2 g3 => chgE hw hS x g1 g2 (fun j h1 h2 => g3 j h1 (by omega))) hwn hN
  refine ⟨C', M', ?_, e3⟩
  unfold f_X8_dropEnding
  rw [e1, ob]
theorem E_dropEndingF (hR : RA C M a t c) : f_X8_dropEnding N C (nI (a 2)) = some (-11, C) := by
  have hw := hR.rc.1
  have := hw.2.2.1
  unfold f_X8_dropEnding
  rw [E_dropF (N := N) (ci := 2) (k := 15) hR.rc.2.1.2.2.1 (by omega), ob]
theorem E_widen {x y : Nat} (hR : RA C M a t c) (hx : x < 26) (hy2 : 1 ≤ y ∧ y ≤ 9) (hN : 3000 ≤ N) : ∃ C' M', f_X8_widen N C (nI (97 + x)) (nI y) = some (nI (a (8 + x)), C') ∧ RA C' M' (un a (8 + x) y) t c := by
  have hT := hR.tx
  have hS := hR.rc.2.1
  have hw := hR.rc.1
  obtain ⟨C2, M2, h', p', bs', e2, hS2, hM2, hH2, hT2⟩ := E_keep hR hN
  have hL : LtC C 21 a := hS.2.2.2.1
  have hL2 : LtC C2 21 a := hS2.2.2.2.1
  obtain ⟨hw4, hS4⟩ := chgS (C' := up1 C2 21 (upd (C2 21) x (nI y))) (a' := un a (8 + x) y) hw hS2 (fun j h1 h2 => up1_n h1) (fun j hj => by
    rw [up1_s]
    by_cases q : j = x
    · rw [q, pk_us, un_s]
    · rw [pk_un q, un_n (by omega)]
      exact hL2 j hj) (fun j hj => by
    rw [up1_n (by decide), un_n (by omega)]
    exact hS2.2.2.2.2 j hj) (by
    obtain ⟨w0, w1, w2, w3, w4, w5, w6, w7, wl, wp, wn, we⟩ := hw
    refine ⟨by rw [un_n (by omega)]; exact w3, by rw [un_n (by omega)]; exact w4, by rw [un_n (by omega)]; exact w5, by rw [un_n (by omega)]; exact w6, by rw [un_n (by omega)]; exact w7, fun k hk => ?_⟩
    by_cases q : k = x
    · rw [q, un_s]; exact hy2
    · rw [un_n (by omega)]; exact wl k hk) (fun j hj => un_n (by omega))
  have hH4 : HsC (up1 C2 21 (upd (C2 21) x (nI y))) M2 h' p' bs' := hH2.cg (fun j j1 j2 => up1_n (by omega)) rfl rfl
  have hT4 : TxC (up1 C2 21 (upd (C2 21) x (nI y))) M2 t c := hT2.cgC (by rw [up1_n (by decide)]) (up1_n (by decide))
  obtain ⟨C5, M5, e6, x5, hR5⟩ := E_fin (N := N) hw4 hS4 hH4 hT4 hN
  refine ⟨C5, M5, ?_, hR5⟩
  have hz : isl (97 + x) = true := decide_eq_true ⟨by omega, by omega⟩
  unfold f_X8_widen
  rw [x_isLetter (by omega), ob, hz]
  simp only [↓reduceIte, i_0, i_1, q_nT]
  rw [show (9 : Int32) = nI 9 by decide, if_neg (fun q => by have := (nI_ltI (by omega) (by decide)).mp q; omega), if_pos ((nI_leI (by omega) (by decide)).mpr hy2.2), i_97, q_sub (by omega), Nat.add_sub_cancel_left, x_at (k := 20) (n := 26) rfl (by omega) (by decide), ob, e2, ob, x_put (k := 20) (n := 26) rfl (by omega) (by decide), ob, e6, ob]
  show some (C 21 x, C5) = _
  rw [hL _ hx]
theorem E_set {k y : Nat} (hR : RA C M a t c) (k5 : k < 5) (hy2 : lvN k ≤ y ∧ y ≤ gvN k) (hN : 3000 ≤ N) : ∃ C' M', f_X8_set N C (nI k) (nI y) = some (nI (a (3 + k)), C') ∧ RA C' M' (un a (3 + k) y) t c := by
  have hT := hR.tx
  have hS := hR.rc.2.1
  have hw := hR.rc.1
  obtain ⟨t1, t2, t3, t4⟩ := tbs k k5
  have hy : y < 2147483648 := by omega
  obtain ⟨C2, M2, h', p', bs', e2, hS2, hM2, hH2, hT2⟩ := E_keep hR hN
  obtain ⟨hw4, hS4⟩ := chgS (C' := up1 C2 23 (upd (C2 23) k (nI y))) (a' := un a (3 + k) y) hw hS2 (fun j h1 h2 => up1_n h2) (fun j hj => by
    rw [up1_n (by decide), un_n (by omega)]
    exact hS2.2.2.2.1 j hj) (fun j hj => by
    rw [up1_s]
    by_cases q : j = k
    · rw [q, pk_us, un_s]
    · rw [pk_un q, un_n (by omega)]
      exact hS2.2.2.2.2 j hj) (by
    obtain ⟨w0, w1, w2, w3, w4, w5, w6, w7, wl, wp, wn, we⟩ := hw
    unfold lvN gvN at hy2
    have hun : ∀ j, un a (3 + k) y j = if j = 3 + k then y else a j := fun _ => rfl
    refine ⟨?_, ?_, ?_, ?_, ?_, fun i hi => by rw [un_n (by omega)]; exact wl i hi⟩
    · rw [hun]
      split
      · have e : k = 0 := by omega
        subst e
        simpa using hy2
      · exact w3
    · rw [hun]
      split
      · have e : k = 1 := by omega
        subst e
        simpa using hy2
      · exact w4
    · rw [hun]
      split
      · have e : k = 2 := by omega
        subst e
        simpa using hy2
      · exact w5
    · rw [hun]
      split
      · have e : k = 3 := by omega
        subst e
        simpa using hy2
      · exact w6
    · rw [hun]
      split
      · have e : k = 4 := by omega
        subst e
        simpa using hy2
      · exact w7) (fun j hj => un_n (by omega))
  have hH4 : HsC (up1 C2 23 (upd (C2 23) k (nI y))) M2 h' p' bs' := hH2.cg (fun j j1 j2 => up1_n (by omega)) rfl rfl
  have hT4 : TxC (up1 C2 23 (upd (C2 23) k (nI y))) M2 t c := hT2.cgC (by rw [up1_n (by decide)]) (up1_n (by decide))
  obtain ⟨C5, M5, e6, x5, hR5⟩ := E_fin (N := N) hw4 hS4 hH4 hT4 hN
  refine ⟨C5, M5, ?_, hR5⟩
  unfold f_X8_set
  rw [if_neg (nI_pos (by omega)), i_5, if_pos ((nI_ltI (by omega) (by decide)).mpr k5)]
  simp (disch := omega) only [q_gIn, q_cl, t1, t2]
  rw [if_neg (fun q => by have := (nI_ltI hy t3).mp q; omega), if_pos ((nI_leI hy t4).mpr hy2.2), x_at (k := 22) (n := 5) rfl k5 (by decide), ob, e2, ob, x_put (k := 22) (n := 5) rfl k5 (by decide), ob, e6, ob]
  show some (C 23 k, C5) = _
  rw [hS.2.2.2.2 k k5]
end EE
