/-! ===== widen, set, undo ===== -/
section WW1
variable {C M : kS} {a : kA} {N t h : Nat} {c : Nat → Nat} {p : Nat → Nat} {bs : Nat → kA}
theorem isl_lt {x : Nat} (h : isl x = true) : 97 ≤ x ∧ x ≤ 122 := of_decide_eq_true h
theorem J_widen (hR : RD C M a) (hH : HsC C M h p bs) (hT : TxC C M t c) (v u : Int32) (hN : 3000 ≤ N) : ∃ r C' M', f_X8_widen N C v u = some (r, C') ∧ f_X9_widen N M v u = some (r, M') ∧ Rl C' M' := by
  have hR0 := hR
  obtain ⟨hw, hM, hS, hD⟩ := hR
  unfold f_X8_widen f_X9_widen
  rcases sg v with hv | ⟨x, hx, rfl⟩
  · refine ⟨-11, C, M, ?_, ?_, a, h, p, bs, t, c, hR0, hH, hT⟩
    · have e : f_X8_isLetter N v = some (nI 0) := by
        unfold f_X8_isLetter
        rw [i_97, jn_eq]
        simp (disch := omega) only [ngLt hv, ↓reduceIte, i_0, i_1, q_and0]
      rw [e, ob, i_0, if_pos rfl]
    · have e : f_X9_isLetter N v = some (nI 0) := by
        unfold f_X9_isLetter
        rw [i_97, i_122, m_inG hv (by decide), ob, i_1, q_and0]
      rw [e, ob, i_0, if_pos rfl]
  · rw [x_isLetter hx, m_isLetter hx, ob, ob]
    cases z : isl x with
    | false =>
      refine ⟨-11, C, M, ?_, ?_, a, h, p, bs, t, c, hR0, hH, hT⟩
      · simp only [Bool.false_eq_true, ↓reduceIte, i_0]
      · simp only [Bool.false_eq_true, ↓reduceIte, i_0]
    | true =>
      have hx2 := isl_lt z
      simp only [↓reduceIte, i_0, i_1, q_nT]
      rw [show (9 : Int32) = nI 9 by decide]
      rcases sg u with hu | ⟨y, hy, rfl⟩
      · refine ⟨-11, C, M, ?_, ?_, a, h, p, bs, t, c, hR0, hH, hT⟩
        · simp (disch := omega) only [ngLt hu, ↓reduceIte]
        · rw [m_inG hu (by decide), ob, if_pos rfl]
      · rw [m_inN hy (by decide) (by decide), ob]
        by_cases hy2 : 1 ≤ y ∧ y ≤ 9
        · obtain ⟨C2, M2, h', p', bs', e2, e3, hH2, kc, km⟩ := J_keep (N := N) hH hw hM hS hN
          have hS2 : StC C2 4 a := hS.cg (fun j _ _ => kc j (by omega))
          have hM2 : SM M2 a := fun i hi => by rw [km.1 1 (by decide) (by decide)]; exact hM i hi
          have hT2 : TxC C2 M2 t c := (hT.cgM (km.1 3 (by decide) (by decide)) (km.2 4 (by decide))).cgC (by rw [kc 1 (by decide)]) (kc 3 (by decide))
          have hL : LtC C 21 a := hS.2.2.2.1
          have hL2 : LtC C2 21 a := hS2.2.2.2.1
          have hM6 : SM (up1 M2 1 (upd (M2 1) (8 + (x - 97)) (nI y))) (un a (8 + (x - 97)) y) := hM2.un _ _
          obtain ⟨hw4, hS4⟩ := chgS (C' := up1 C2 21 (upd (C2 21) (x - 97) (nI y))) (a' := un a (8 + (x - 97)) y) hw hS2 (fun j h1 h2 => up1_n h1) (fun j hj => by
            rw [up1_s]
            by_cases q : j = x - 97
            · rw [q, pk_us, un_s]
            · rw [pk_un q, un_n (by omega)]
              exact hL2 j hj) (fun j hj => by
            rw [up1_n (by decide), un_n (by omega)]
            exact hS2.2.2.2.2 j hj) (by
            obtain ⟨w0, w1, w2, w3, w4, w5, w6, w7, wl, wp, wn, we⟩ := hw
            refine ⟨by rw [un_n (by omega)]; exact w3, by rw [un_n (by omega)]; exact w4, by rw [un_n (by omega)]; exact w5, by rw [un_n (by omega)]; exact w6, by rw [un_n (by omega)]; exact w7, fun k hk => ?_⟩
            by_cases q : k = x - 97
            · rw [q, un_s]; exact hy2
            · rw [un_n (by omega)]; exact wl k hk) (fun j hj => un_n (by omega))
          have hH4 : HsC (up1 C2 21 (upd (C2 21) (x - 97) (nI y))) (up1 M2 1 (upd (M2 1) (8 + (x - 97)) (nI y))) h' p' bs' := hH2.cg (fun j j1 j2 => up1_n (by omega)) (up1_n (by decide)) (by rw [up1_n (by decide)])
          have hT4 : TxC (up1 C2 21 (upd (C2 21) (x - 97) (nI y))) (up1 M2 1 (upd (M2 1) (8 + (x - 97)) (nI y))) t c := (hT2.cgM (up1_n (by decide)) (by rw [up1_n (by decide)])).cgC (by rw [up1_n (by decide)]) (up1_n (by decide))
          obtain ⟨C5, e6, x5, hR5⟩ := J_fin (N := N) hw4 hM6 hS4 hH4 hT4 hN
          refine ⟨nI (a (8 + (x - 97))), C5, _, ?_, ?_, hR5⟩
          · rw [if_neg (fun q => by have := (nI_ltI hy (by decide)).mp q; omega), if_pos ((nI_leI hy (by decide)).mpr hy2.2), i_97, q_sub (by omega), x_at (k := 20) (n := 26) rfl (by omega) (by decide), ob, e2, ob, x_put (k := 20) (n := 26) rfl (by omega) (by decide), ob, e6, ob]
            show some (C 21 (x - 97), C5) = _
            rw [hL _ (by omega)]
          · rw [if_pos hy2, if_neg (by rw [q_nT]; exact not_false), e3, ob]
            simp (disch := omega) only [i_8, i_97, nI_add, q_sub, q_gIn, q_cl, jn_eq, show 8 + x - 97 = 8 + (x - 97) by omega, hM2 _]
        · refine ⟨-11, C, M, ?_, ?_, a, h, p, bs, t, c, hR0, hH, hT⟩
          · by_cases q : y < 1
            · rw [if_pos ((nI_ltI hy (by decide)).mpr q)]
            · rw [if_neg (fun q2 => q ((nI_ltI hy (by decide)).mp q2)), if_neg (fun q2 => by have := (nI_leI hy (by decide)).mp q2; omega)]
          · rw [if_neg hy2, if_pos rfl]
def lvN (k : Nat) : Nat := if k = 0 then 0 else if k = 4 then 20 else 1
def gvN (k : Nat) : Nat := if k = 0 then 3 else if k = 1 then 50 else if k = 2 then 8 else if k = 3 then 9 else 200
theorem tbs : ∀ k, k < 5 → tb_LV k = nI (lvN k) ∧ tb_GV k = nI (gvN k) ∧ lvN k < 2147483648 ∧ gvN k < 2147483648 := by decide +kernel
theorem m_isSetN {k : Nat} {u : Int32} (hk : k < 5) : f_X9_isSetting N (nI k) u = (f_X9_in N u (nI (lvN k)) (nI (gvN k))).bind (fun r => some (r &&& 1)) := by
  unfold f_X9_isSetting
  obtain rfl | rfl | rfl | rfl | rfl : k = 0 ∨ k = 1 ∨ k = 2 ∨ k = 3 ∨ k = 4 := by omega
  · rw [if_pos (by decide)]; rfl
  · rw [if_neg (by decide), if_pos (by decide)]; rfl
  · rw [if_neg (by decide), if_neg (by decide), if_pos (by decide)]; rfl
  · rw [if_neg (by decide), if_neg (by decide), if_neg (by decide), if_pos (by decide)]; rfl
  · rw [if_neg (by decide), if_neg (by decide), if_neg (by decide), if_neg (by decide), if_pos (by decide)]; rfl
theorem J_set (hR : RD C M a) (hH : HsC C M h p bs) (hT : TxC C M t c) (v u : Int32) (hN : 3000 ≤ N) : ∃ r C' M', f_X8_set N C v u = some (r, C') ∧ f_X9_set N M v u = some (r, M') ∧ Rl C' M' := by
  have hR0 := hR
  obtain ⟨hw, hM, hS, hD⟩ := hR
  unfold f_X8_set f_X9_set
  rcases sg v with hv | ⟨k, hk, rfl⟩
  · refine ⟨-11, C, M, ?_, ?_, a, h, p, bs, t, c, hR0, hH, hT⟩
    · rw [if_pos hv]
    · have e : f_X9_isSetting N v u = some (nI 0) := by
        unfold f_X9_isSetting
        simp (disch := omega) only [i_0, i_1, i_2, i_3, i_4, ngE hv, ↓reduceIte, q_and0]
      rw [e, ob, i_0, if_pos rfl]
  · rw [if_neg (nI_pos hk), i_5]
    by_cases k5 : k < 5
    · obtain ⟨t1, t2, t3, t4⟩ := tbs k k5
      rw [if_pos ((nI_ltI hk (by decide)).mpr k5), m_isSetN k5]
      simp (disch := omega) only [q_gIn, q_cl, t1, t2]
      rcases sg u with hu | ⟨y, hy, rfl⟩
      · refine ⟨-11, C, M, ?_, ?_, a, h, p, bs, t, c, hR0, hH, hT⟩
        · simp (disch := omega) only [ngLt hu, ↓reduceIte]
        · rw [m_inG hu t3, ob, ob, i_0, i_1, q_and0, if_pos rfl]
      · rw [m_inN hy t3 t4, ob]
        by_cases hy2 : lvN k ≤ y ∧ y ≤ gvN k
        · obtain ⟨C2, M2, h', p', bs', e2, e3, hH2, kc, km⟩ := J_keep (N := N) hH hw hM hS hN
          have hS2 : StC C2 4 a := hS.cg (fun j _ _ => kc j (by omega))
          have hM2 : SM M2 a := fun i hi => by rw [km.1 1 (by decide) (by decide)]; exact hM i hi
          have hT2 : TxC C2 M2 t c := (hT.cgM (km.1 3 (by decide) (by decide)) (km.2 4 (by decide))).cgC (by rw [kc 1 (by decide)]) (kc 3 (by decide))
          have hM6 : SM (up1 M2 1 (upd (M2 1) (3 + k) (nI y))) (un a (3 + k) y) := hM2.un _ _
          obtain ⟨hw4, hS4⟩ := chgS (C' := up1 C2 23 (upd (C2 23) k (nI y))) (a' := un a (3 + k) y) hw hS2 (fun j h1 h2 => up1_n h2) (fun j hj => by
            rw [up1_n (by decide), un_n (by omega)]
            exact hS2.2.2.2.1 j hj) (fun j hj => by
            rw [up1_s]
            by_cases q : j = k
            · rw [q, pk_us, un_s]
            · rw [pk_un q, un_n (by omega)]
              exact hS2.2.2.2.2 j hj) (by
            obtain ⟨w0, w1, w2, w3, w4, w5, w6, w7, wl, wp, wn, we⟩ := hw
            unfold lvN gvN at hy2
            have hun : ∀ j, un a (3 + k) y j = if j = 3 + k then y else a j := fun _ => rfl
            refine ⟨?_, ?_, ?_, ?_, ?_, fun i hi => by rw [un_n (by omega)]; exact wl i hi⟩
            · rw [hun]
              split
              · have e : k = 0 := by omega
                subst e
                simpa using hy2
              · exact w3
            · rw [hun]
              split
              · have e : k = 1 := by omega
                subst e
                simpa using hy2
              · exact w4
            · rw [hun]
              split
              · have e : k = 2 := by omega
                subst e
                simpa using hy2
              · exact w5
            · rw [hun]
              split
              · have e : k = 3 := by omega
                subst e
                simpa using hy2
              · exact w6
            · rw [hun]
              split
              · have e : k = 4 := by omega
                subst e
                simpa using hy2
              · exact w7) (fun j hj => un_n (by omega))
          have hH4 : HsC (up1 C2 23 (upd (C2 23) k (nI y))) (up1 M2 1 (upd (M2 1) (3 + k) (nI y))) h' p' bs' := hH2.cg (fun j j1 j2 => up1_n (by omega)) (up1_n (by decide)) (by rw [up1_n (by decide)])
          have hT4 : TxC (up1 C2 23 (upd (C2 23) k (nI y))) (up1 M2 1 (upd (M2 1) (3 + k) (nI y))) t c := (hT2.cgM (up1_n (by decide)) (by rw [up1_n (by decide)])).cgC (by rw [up1_n (by decide)]) (up1_n (by decide))
          obtain ⟨C5, e6, x5, hR5⟩ := J_fin (N := N) hw4 hM6 hS4 hH4 hT4 hN
          refine ⟨nI (a (3 + k)), C5, _, ?_, ?_, hR5⟩
          · rw [if_neg (fun q => by have := (nI_ltI hy t3).mp q; omega), if_pos ((nI_leI hy t4).mpr hy2.2), x_at (k := 22) (n := 5) rfl k5 (by decide), ob, e2, ob, x_put (k := 22) (n := 5) rfl k5 (by decide), ob, e6, ob]
            show some (C 23 k, C5) = _
            rw [hS.2.2.2.2 k k5]
          · rw [if_pos hy2, ob, i_1, q_and1, i_0, if_neg (by rw [q_nT]; exact not_false), e3, ob]
            simp (disch := omega) only [i_3, nI_add, q_gIn, q_cl, jn_eq, hM2 _]
        · refine ⟨-11, C, M, ?_, ?_, a, h, p, bs, t, c, hR0, hH, hT⟩
          · by_cases q : y < lvN k
            · rw [if_pos ((nI_ltI hy t3).mpr q)]
            · rw [if_neg (fun q2 => q ((nI_ltI hy t3).mp q2)), if_neg (fun q2 => by have := (nI_leI hy t4).mp q2; omega)]
          · rw [if_neg hy2, ob, i_1, q_and0, i_0, if_pos rfl]
    · refine ⟨-11, C, M, ?_, ?_, a, h, p, bs, t, c, hR0, hH, hT⟩
      · rw [if_neg (fun q => k5 ((nI_ltI hk (by decide)).mp q))]
      · have e : f_X9_isSetting N (nI k) u = some (nI 0) := by
          unfold f_X9_isSetting
          simp (disch := omega) only [i_0, i_1, i_2, i_3, i_4, q_eq, if_neg, q_and0]
        rw [e, ob, i_0, if_pos rfl]
theorem J_undo (hR : RD C M a) (hH : HsC C M h p bs) (hT : TxC C M t c) (hN : 3000 ≤ N) : ∃ r C' M', f_X8_undo N C = some (r, C') ∧ f_X9_undo N M = some (r, M') ∧ Rl C' M' := by
  have hR0 := hR
  have hH0 := hH
  obtain ⟨hw, hM, hS, hD⟩ := hR
  obtain ⟨h4, h1, h2, hp, hi, hs⟩ := hH
  unfold f_X8_undo f_X9_undo f_X2_size
  rw [ob, h1, h2]
  by_cases z : h = 0
  · refine ⟨-12, C, M, ?_, ?_, a, h, p, bs, t, c, hR0, hH0, hT⟩
    · rw [z, i_0, if_pos rfl]
    · rw [z, i_0, if_pos rfl]
  · have hz : ¬ nI h = 0 := fun q => by rw [i_0] at q; exact z ((nI_eq (by omega) (by decide)).mp q)
    rw [if_neg hz, if_neg hz]
    obtain ⟨p1, p2, p3, p4⟩ := hp (h - 1) (by omega)
    obtain ⟨b1, b2, b3⟩ := hs (h - 1) (by omega)
    have hq : ∀ i, i < 4 → 26 ≤ p i ∧ p i ≤ 86 := fun i hi4 => by
      have := (hp i hi4).2.1
      have := (hp i hi4).2.2.1
      unfold Qs at *
      omega
    have hq1 := hq (h - 1) (by omega)
    obtain ⟨C1, e1, g1, x1⟩ := x_stCopy (N := N) b2 b1 p2 (Or.inl rfl) p3 hS.shp
    have hrest : f_X2_restore N C = some (up1 C1 24 (upd (C1 24) 1 (nI (h - 1)))) := by
      unfold f_X2_restore
      rw [x_latest h1 (by omega) h4 p1, ob]
      show gIf (kd (nI (p (h - 1))).toNatClampNeg = 5) _ = _
      rw [q_cl (by omega), gIf_y p2.ln.2.2.2.2.2, e1, ob]
      simp only [jn_eq]
      rw [x1 24 (by decide), h1, i_1, q_sub (by omega)]
    -- the reference's loop
    obtain ⟨M1, n, ⟨m0, m1⟩, e⟩ := lpN (fun n i (x : kS) => lp_X9_undo_22 N (fun C3 => some (C3 0 2, C3)) n (nI i) x) (fun i x => (∀ j, j ≠ 1 → x j = (up1 M 0 (upd (M 0) 2 (nI (h - 1)))) j) ∧ ∀ j, j < i → x 1 j = nI (bs (h - 1) j)) 642 (fun n i x hi2 hI => by
      obtain ⟨c0, c1⟩ := hI
      refine ⟨up1 x 1 (upd (x 1) i (nI (bs (h - 1) i))), ⟨fun j hj => by rw [up1_n hj]; exact c0 j hj, fun j hj => ?_⟩, ?_⟩
      · rw [up1_s]
        by_cases q : j = i
        · subst q
          rw [pk_us]
        · rw [pk_un q]
          exact c1 j (by omega)
      · show lp_X9_undo_22 N _ (n + 1) (nI i) x = lp_X9_undo_22 N _ n (nI (i + 1)) _
        have x0 : x 0 2 = nI (h - 1) := by rw [c0 0 (by decide), up1_s, pk_us]
        have x2 : x 2 (642 * (h - 1) + i) = nI (bs (h - 1) i) := by rw [c0 2 (by decide), up1_n (by decide)]; exact b3 i hi2
        rw [lp_X9_undo_22]
        simp (disch := omega) only [i_642, q_le, if_neg, x0, pk_mul, nI_add, q_gIn, q_cl, x2, ↓jn_eq, i_1]) (N := N) 0 (up1 M 0 (upd (M 0) 2 (nI (h - 1)))) (Nat.zero_le _) (by omega) ⟨fun j _ => rfl, fun j hj => absurd hj (Nat.not_lt_zero j)⟩
    have hM1 : SM M1 (bs (h - 1)) := m1
    have hS1 : StC (up1 C1 24 (upd (C1 24) 1 (nI (h - 1)))) 4 (bs (h - 1)) := g1.cg (fun j _ _ => up1_n (by omega))
    have hx : ∀ j, 25 ≤ j → (up1 C1 24 (upd (C1 24) 1 (nI (h - 1)))) j = C j := fun j hj => by rw [up1_n (by omega), x1 j (by omega)]
    have hH1 : HsC (up1 C1 24 (upd (C1 24) 1 (nI (h - 1)))) M1 (h - 1) p bs := by
      refine ⟨by omega, by rw [up1_s, pk_us], by rw [m0 0 (by decide), up1_s, pk_us], fun i hi4 => ?_, hi, fun j hj => ?_⟩
      · have := hq i hi4
        obtain ⟨q1, q2, q3, q4⟩ := hp i hi4
        exact ⟨by rw [hx 25 (by decide)]; exact q1, q2, q3, q4.cg (hx _ (by omega)) (hx _ (by omega)) (hx _ (by omega))⟩
      · have := hq j (by omega)
        obtain ⟨d1, d2, d3⟩ := hs j (by omega)
        exact ⟨d1, d2.cg (fun k k1 k2 => hx k (by omega)), fun i hi2 => by rw [m0 2 (by decide), up1_n (by decide)]; exact d3 i hi2⟩
    have hT1 : TxC (up1 C1 24 (upd (C1 24) 1 (nI (h - 1)))) M1 t c := (hT.cgM (by rw [m0 3 (by decide), up1_n (by decide)]) (by rw [m0 0 (by decide), up1_s, pk_un (by decide)])).cgC (by rw [up1_n (by decide), x1 1 (by decide)]) (by rw [up1_n (by decide), x1 3 (by decide)])
    obtain ⟨C5, e6, x5, hR5⟩ := J_fin (N := N) b1 hM1 hS1 hH1 hT1 hN
    refine ⟨nI (h - 1), C5, M1, ?_, ?_, hR5⟩
    · rw [hrest, ob, e6, ob, ob, x5 24 (by decide), up1_s, pk_us]
    · simp only [jn_eq]
      rw [i_1, q_sub (by omega), i_0]
      refine e.trans ?_
      show lp_X9_undo_22 N _ (n + 1) (nI 642) M1 = _
      rw [lp_X9_undo_22, if_pos (by decide), m0 0 (by decide), up1_s, pk_us]
end WW1
