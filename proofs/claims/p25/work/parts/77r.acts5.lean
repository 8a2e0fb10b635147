/-! ===== words typed beside each other: the page that comes of them ===== -/
section TI1
variable {c c' d : Nat → Nat} {t s w n ci base wide : Nat}
theorem run_cg (h : ∀ i, i < t → c' i = c i) : ∀ i, i ≤ t → run c' i = run c i
  | 0, _ => rfl
  | i + 1, hi => by rw [run, run, h i (by omega), run_cg h i (by omega)]
theorem wrd_cg (h : ∀ i, i < t → c' i = c i) : ∀ i, i ≤ t → wrd c' i = wrd c i
  | 0, _ => rfl
  | i + 1, hi => by rw [wrd_s, wrd_s, h i (by omega), run_cg h i (by omega), wrd_cg h i (by omega)]
theorem pgG_cg {A : kA} (h : ∀ i, i < t → c' i = c i) : ∀ i, i ≤ t → pgG ci base wide A c' i = pgG ci base wide A c i
  | 0, _ => rfl
  | i + 1, hi => by rw [pgG, pgG, h i (by omega), run_cg h i (by omega), pgG_cg h i (by omega)]
theorem run_sh (h0 : run c s = 0) : ∀ i, run c (s + i) = run (fun k => c (s + k)) i
  | 0 => h0
  | i + 1 => by
    show run c (s + i + 1) = _
    rw [run, run, run_sh h0 i]
theorem wrd_sh (h0 : run c s = 0) : ∀ i, wrd c (s + i) = wrd c s + wrd (fun k => c (s + k)) i
  | 0 => rfl
  | i + 1 => by
    show wrd c (s + i + 1) = _
    rw [wrd_s, wrd_s, run_sh h0 i, wrd_sh h0 i, Nat.add_assoc]
theorem pgG_sh {A : kA} (h0 : run c s = 0) : ∀ i, pgG ci base wide A c (s + i) = pgG ci base wide (pgG ci base wide A c s) (fun k => c (s + k)) i
  | 0 => rfl
  | i + 1 => by
    show pgG ci base wide A c (s + i + 1) = _
    rw [pgG, pgG, run_sh h0 i, pgG_sh h0 i]
theorem wrd_all (hl : ∀ i, i < t → isl (c i) = true) : ∀ i, i ≤ t → wrd c i = if i = 0 then 0 else 1
  | 0, _ => rfl
  | i + 1, hi => by
    rw [wrd_s, wrd_all hl i (by omega), hl i (by omega), run_all hl i (by omega), Bool.true_and]
    by_cases y : i = 0
    · subst y
      rfl
    · rw [if_neg y, if_neg (Nat.succ_ne_zero i), decide_eq_false y, if_neg (by decide)]
def TI (c : Nat → Nat) (t w : Nat) : Prop := (∀ j, j < t → (c j = 32 ∧ ¬ run c j = 0 ∧ j + 1 < t) ∨ (isl (c j) = true ∧ run c j < 12 ∧ wrd c j < 40)) ∧ wrd c t = w ∧ (0 < w → ¬ run c t = 0) ∧ t ≤ 6 * w
theorem TI_flt (h : TI c t w) : fltI c t = t := by
  rcases Nat.lt_or_ge (fltI c t) t with q | q
  · refine absurd ?_ (fltI_bad q)
    unfold rsn
    rcases h.1 _ q with ⟨y1, y2, y3⟩ | ⟨y1, y2, y3⟩
    · rw [if_pos y1, if_neg (by omega)]
    · have := isl_lt y1
      rw [if_neg (by omega), if_pos y1, if_neg (by omega), if_neg (by omega)]
  · exact Nat.le_antisymm (fst_le _ _) q
theorem TI_step (hT : TI c t w) (hw8 : w < 8) (hs : (w = 0 ∧ s = 0) ∨ (0 < w ∧ s = t + 1 ∧ c' t = 32)) (hc : ∀ i, i < t → c' i = c i) (hd : ∀ i, i < n → d i < 26) (hl : ∀ i, i < n → c' (s + i) = 97 + d i) (h1 : 1 ≤ n) (h5 : n ≤ 5) : TI c' (s + n) (w + 1) ∧ ∀ A : kA, pgG 0 34 13 A c' (s + n) = pgG 0 34 13 (pgG 0 34 13 A c t) (fun k => c' (s + k)) n := by
  obtain ⟨t1, t2, t3, t4⟩ := hT
  have hli : ∀ i, i < n → isl ((fun k => c' (s + k)) i) = true := fun i hi => by
    show isl (c' (s + i)) = true
    rw [hl i hi]
    exact isl_97 (hd i hi)
  have h0 : run c' s = 0 ∧ wrd c' s = w ∧ ∀ A : kA, pgG 0 34 13 A c' s = pgG 0 34 13 A c t := by
    rcases hs with ⟨y1, y2⟩ | ⟨y1, y2, y3⟩
    · have : t = 0 := by omega
      subst this
      subst y2
      exact ⟨rfl, y1.symm, fun A => rfl⟩
    · subst y2
      refine ⟨by rw [run, y3, isl_32]; rfl, by rw [wrd_s, y3, isl_32, wrd_cg hc t (Nat.le_refl t), t2]; rfl, fun A => ?_⟩
      rw [pgG, y3, isl_32, if_neg (by decide), pgG_cg hc t (Nat.le_refl t)]
  obtain ⟨h0, hws, hpg⟩ := h0
  have hst : t ≤ s ∧ s ≤ t + 1 := by omega
  refine ⟨⟨fun j hj => ?_, ?_, fun _ => ?_, by omega⟩, fun A => ?_⟩
  · by_cases y : j < t
    · rw [hc j y, run_cg hc j (by omega), wrd_cg hc j (by omega)]
      rcases t1 j y with ⟨y1, y2, y3⟩ | q
      · exact Or.inl ⟨y1, y2, by omega⟩
      · exact Or.inr q
    · by_cases y2 : j < s
      · have hj2 : j = t := by omega
        subst hj2
        rcases hs with q | ⟨y4, y5, y6⟩
        · omega
        · exact Or.inl ⟨y6, by rw [run_cg hc j (Nat.le_refl j)]; exact t3 y4, by omega⟩
      · obtain ⟨i, hi⟩ : ∃ i, j = s + i := ⟨j - s, by omega⟩
        subst hi
        refine Or.inr ⟨hli i (by omega), ?_, ?_⟩
        · rw [run_sh h0, run_all hli i (by omega)]
          omega
        · rw [wrd_sh h0, wrd_all hli i (by omega), hws]
          split <;> omega
  · rw [wrd_sh h0, wrd_all hli n (Nat.le_refl n), hws, if_neg (by omega)]
  · rw [run_sh h0, run_all hli n (Nat.le_refl n)]
    omega
  · rw [pgG_sh h0, hpg]
end TI1
theorem i_1237 : (1237 : Int32) = nI 1237 := by decide
theorem form_ix : ∀ f, f < 12 → 8 ≤ (8 + nI f / 3).toNatClampNeg ∧ 8 ≤ (12 + ((nI f - nI f / 3 * 3) - 1)).toNatClampNeg := by decide +kernel
theorem f_form_cg {N f : Nat} {L L' : kS} (h6 : L' 0 6 = L 0 6) (h7 : L' 0 7 = L 0 7) (h2 : ∀ j, 8 ≤ j → L' 2 j = L 2 j) (hf : f < 12) : f_L_form N L' (nI f) = f_L_form N L (nI f) := by
  obtain ⟨x1, x2⟩ := form_ix f hf
  unfold f_L_form
  have c6 : (6 : Int32).toNatClampNeg = 6 := by decide
  have c7 : (7 : Int32).toNatClampNeg = 7 := by decide
  simp only [c6, c7, h6, h7, h2 _ x1, h2 _ x2]
theorem stepJ {α β γ : Type} {k : α → β} {f : (α → β) → β} (P : α → Prop) {I : γ → Prop} {R : γ → β} (h : ∃ x, P x ∧ ∀ j, f j = j x) (h2 : ∀ x, P x → ∃ y, I y ∧ k x = R y) : ∃ y, I y ∧ jn k f = R y := by
  obtain ⟨x, p, e⟩ := h
  obtain ⟨y, i, e2⟩ := h2 x p
  exact ⟨y, i, (e k).trans e2⟩
/-- what the law holds of the page to come -/
def PGR (L : kS) (a : kA) (c : Nat → Nat) (t w : Nat) : Prop := (∀ u, u < w → pgG 0 34 13 (un a 0 0) c t (34 + 13 * u) ≤ 5 ∧ L 2 u = nI (enc (lc (pgG 0 34 13 (un a 0 0) c t) (34 + 13 * u)) (pgG 0 34 13 (un a 0 0) c t (34 + 13 * u)))) ∧ pgG 0 34 13 (un a 0 0) c t 0 = w ∧ ∀ j, j ≠ 0 → (j < 34 ∨ 138 ≤ j) → pgG 0 34 13 (un a 0 0) c t j = a j
section PG
variable {C M L L1 : kS} {a : kA} {N t v r g : Nat} {c : Nat → Nat} {z : Int32}
theorem f_111 (hw : WF a) (hb : LB a) (hL : LR L a) (hR : RA C M a 0 c) (hv : v < 10000000) (hg : g ≤ 8) (k5 : L1 0 5 = nI g) (k6 : L1 0 6 = L 0 6) (k7 : L1 0 7 = L 0 7) (k8 : ∀ j, 8 ≤ j → L1 2 j = L 2 j) (kont : Int32 → kS × kS → Option (Int32 × (kS × kS))) (hN : 3000 ≤ N) : ∃ C' M' L' c' t', lp_L_acts_111 N (nI v) kont N (nI 1) (nI 0) (C, L1) = kont (nI 1) (C', L') ∧ RA C' M' a t' c' ∧ TI c' t' g ∧ PGR L' a c' t' g ∧ (∀ j, j ≠ 2 → L' j = L1 j) ∧ ∀ j, 8 ≤ j → L' 2 j = L 2 j := by
  have c5 : (nI 5).toNatClampNeg = 5 := q_cl (by decide)
  have g5' : ∀ x : Option (Int32 × (kS × kS)), gIn (nI 5) 8 x = x := fun x => q_gIn (by decide) (by decide)
  have z9 : ∀ x : Option (Int32 × (kS × kS)), gNz (nI 9) x = x := fun x => q_nz (by decide) (by decide)
  have z12 : ∀ x : Option (Int32 × (kS × kS)), gNz (nI 12) x = x := fun x => q_nz (by decide) (by decide)
  have z7 : ∀ x : Option (Int32 × (kS × kS)), gNz (nI 7) x = x := fun x => q_nz (by decide) (by decide)
  have z11 : ∀ x : Option (Int32 × (kS × kS)), gNz (nI 11) x = x := fun x => q_nz (by decide) (by decide)
  have z4 : ∀ x : Option (Int32 × (kS × kS)), gNz (nI 4) x = x := fun x => q_nz (by decide) (by decide)
  have hd9 : nI v / nI 9 = nI (v / 9) := q_div (by omega) (by decide) (by decide)
  have hd11 : nI v / nI 11 = nI (v / 11) := q_div (by omega) (by decide) (by decide)
  obtain ⟨⟨x, p⟩, n, ⟨s1, C', M', L', c', t', s2, s3, s4, s5, s6, s7⟩, e⟩ := lpN (fun n i (y : Int32 × (kS × kS)) => lp_L_acts_111 N (nI v) kont n y.1 (nI i) y.2) (fun i y => y.1 = nI 1 ∧ ∃ C' M' L' c' t', y.2 = (C', L') ∧ RA C' M' a t' c' ∧ TI c' t' i ∧ PGR L' a c' t' i ∧ (∀ j, j ≠ 2 → L' j = L1 j) ∧ ∀ j, 8 ≤ j → L' 2 j = L 2 j) g (fun n i y hi hI => by
    obtain ⟨x, p⟩ := y
    obtain ⟨s1, C', M', L', c', t', s2, s3, s4, s5, s6, s7⟩ := hI
    simp only at s1 s2
    subst s1
    subst s2
    have hlt : (nI g ≤ nI i) = False := propext ⟨fun q => by have := (nI_leI (by omega) (by omega)).mp q; omega, fun q => q.elim⟩
    have q12 : nI (v / 9 + 5 * i) - nI (v / 9 + 5 * i) / nI 12 * nI 12 = nI ((v / 9 + 5 * i) % 12) := q_rem (by omega) (by decide) (by decide)
    have q4 : nI (v / 11 + i) - nI (v / 11 + i) / nI 4 * nI 4 = nI ((v / 11 + i) % 4) := q_rem (by omega) (by decide) (by decide)
    have g5 : L' 0 5 = nI g := by rw [s6 0 (by decide)]; exact k5
    have hf12 : (v / 9 + 5 * i) % 12 < 12 := Nat.mod_lt _ (by decide)
    have hm4 : (v / 11 + i) % 4 < 4 := Nat.mod_lt _ (by decide)
    have hform : f_L_form N L' (nI ((v / 9 + 5 * i) % 12)) = some (lN (fv a ((v / 9 + 5 * i) % 12))) := by
      rw [f_form_cg (L := L) (by rw [s6 0 (by decide)]; exact k6) (by rw [s6 0 (by decide)]; exact k7) s7 hf12]
      exact f_form hw hb hL hf12 hN
    show ∃ y : Int32 × (kS × kS), _ ∧ lp_L_acts_111 N (nI v) kont (n + 1) (nI 1) (nI i) (C', L') = lp_L_acts_111 N (nI v) kont n y.1 (nI (i + 1)) y.2
    rw [lp_L_acts_111]
    simp only [i_0, i_1, i_3, i_4, i_5, i_7, i_9, i_11, i_12, i_32, i_1237, c5, g5', g5, hlt, z9, z12, hd9, hd11, pk_mul, nI_add, q12, q4, ↓reduceIte]
    rw [jn_eq, hform, ob]
    refine stepJ (fun x => ∃ (d : Nat → Nat) (m : Nat), (∀ k, k < m → d k < 26) ∧ (1 ≤ m ∧ m ≤ 5) ∧ x = lN (enc d m)) ?_ (fun x hx => ?_)
    · have hlet := f_letters (N := N) (nI v / nI 7 + nI (1237 * i)) (m := 1 + (v / 11 + i) % 4) (by omega) hN
      obtain ⟨d, hd, hdl⟩ := hlet
      by_cases y1 : fv a ((v / 9 + 5 * i) % 12) = 0
      · refine ⟨lN (enc d (1 + (v / 11 + i) % 4)), ⟨d, _, hd, by omega, rfl⟩, fun j => ?_⟩
        rw [jn_eq, y1, if_pos (by decide), z7, z11, z4, hdl, ob]
      · have y3 : ¬ lg_cmp (lN (fv a ((v / 9 + 5 * i) % 12))) (0 : Int64) ≤ nI 0 := fun q => by
          rw [lz_0, ← i_0, lg_le0 (Nat.lt_trans (fv_lt hw hb _) (by decide)) (by decide)] at q
          omega
        by_cases y2 : (nI v >>> (nI i &&& 31)) &&& nI 3 ≤ nI 0
        · refine ⟨lN (enc d (1 + (v / 11 + i) % 4)), ⟨d, _, hd, by omega, rfl⟩, fun j => ?_⟩
          rw [jn_eq, if_neg y3, if_pos y2, z7, z11, z4, hdl, ob]
        · have hvl : vl a ((v / 9 + 5 * i) % 12) = true := by
            rw [← fv_pos hw]
            omega
          refine ⟨lN (fv a ((v / 9 + 5 * i) % 12)), ⟨fc a (ph a ((v / 9 + 5 * i) % 12)), fl a (ph a ((v / 9 + 5 * i) % 12)), fc_ok hw hvl, ⟨fl_pos hw hvl, fl_le hb hvl⟩, by unfold fv; rw [if_pos hvl]⟩, fun j => ?_⟩
          rw [jn_eq, if_neg y3, if_neg y2]
    · obtain ⟨d, m, hd, hm, rfl⟩ := hx
      have hs := enc_small hd (by omega)
      rw [q_gIn (by omega) (by decide), gL_n (by omega), jn_eq, q_cl (by omega), lN_i]
      try dsimp only
      generalize hL2 : up1 L' 2 (upd (L' 2) i (nI (enc d m))) = L2
      have ht6 := s4.2.2.2
      obtain ⟨s, C2, M2, c2, u1, u2, u3, u4⟩ : ∃ s C2 M2 c2, RA C2 M2 a s c2 ∧ ((i = 0 ∧ s = 0) ∨ (0 < i ∧ s = t' + 1 ∧ c2 t' = 32)) ∧ (∀ k, k < t' → c2 k = c' k) ∧ ∀ j215 j230 : kS × kS → Option (Int32 × (kS × kS)), (if nI i = nI 0 then j215 (C', L2) else (f_X8_type N C' (nI 32)).bind (fun r55 => jn ((r55.2, L2)) (fun p56 : kS × kS => if r55.1 ≤ nI 0 then j230 p56 else j215 p56))) = j215 (C2, L2) := by
        by_cases y : i = 0
        · refine ⟨t', C', M', c', s3, Or.inl ⟨y, by omega⟩, fun _ _ => rfl, fun j1 j2 => ?_⟩
          rw [if_pos (by rw [y])]
        · obtain ⟨C2, M2, e1, e2⟩ := E_type (N := N) s3 (by omega) (x := 32) (by decide) (by decide)
          refine ⟨t' + 1, C2, M2, _, e2, Or.inr ⟨by omega, rfl, if_pos rfl⟩, fun k hk => if_neg (by omega), fun j1 j2 => ?_⟩
          rw [if_neg (fun q => y ((nI_eq (by omega) (by decide)).mp q)), e1, ob, jn_eq]
          dsimp only
          rw [if_neg (fun q => by have := (nI_leI (by omega) (by decide)).mp q; omega)]
      have hs2 : s ≤ t' + 1 := by omega
      obtain ⟨C3, M3, c3, w1, w2, w3, w4⟩ := f_says (N := N) (L := L2) u1 hd (by omega) (by omega) hN
      have hts : t' ≤ s := by omega
      obtain ⟨t1, t2⟩ := TI_step (c' := c3) (s := s) (n := m) (d := d) s4 (by omega) (by
        rcases u2 with q | ⟨q1, q2, q3⟩
        · exact Or.inl q
        · exact Or.inr ⟨q1, q2, by rw [w3 t' (by omega)]; exact q3⟩) (fun k hk => by rw [w3 k (by omega)]; exact u3 k hk) hd w4 hm.1 hm.2
      obtain ⟨v1, v2, v3⟩ := s5
      obtain ⟨p0, p1, p2, p3, p4⟩ := new_row (a := pgG 0 34 13 (un a 0 0) c' t') (ci := 0) (base := 34) (wide := 13) (by decide) hm.1 hd w4 (fun u hu => by rw [v2] at hu; have := (v1 u hu).1; omega)
      have ePG := t2 (un a 0 0)
      refine ⟨(nI 1, (C3, L2)), ⟨rfl, C3, M3, L2, c3, s + m, rfl, w2, t1, ⟨fun u hu => ?_, ?_, fun j j0 j2 => ?_⟩, fun j hj => ?_, fun j hj => ?_⟩, ?_⟩
      · rw [ePG]
        by_cases y : u = i
        · subst y
          rw [v2] at p3 p4
          rw [p4, p3, ← hL2, up1_s, pk_us]
          exact ⟨hm.2, rfl⟩
        · obtain ⟨q1, q2⟩ := p2 u (by omega)
          rw [q2, q1, ← hL2, up1_s, pk_un y]
          exact v1 u (by omega)
      · rw [ePG, p0, v2]
      · rw [ePG, p1 j j0 (by omega)]
        exact v3 j j0 j2
      · rw [← hL2, up1_n hj]
        exact s6 j hj
      · rw [← hL2, up1_s, pk_un (by omega)]
        exact s7 j hj
      · refine (jp2 (x := nI 1) (y := (C3, L2)) (fun j => ?_)).trans rfl
        rw [jn_eq, if_neg (by decide)]
        refine (jp1 (x := (C2, L2)) (fun j2 => u4 j2 _)).trans ?_
        dsimp only
        rw [q_gIn (by omega) (by decide), show L2 2 i = nI (enc d m) by rw [← hL2, up1_s, pk_us], nI_l (by omega), w1, ob, jn_eq]
        dsimp only
        rw [if_neg (by decide)]) (N := N) 0 (nI 1, (C, L1)) (Nat.zero_le _) (by omega) ⟨rfl, C, M, L1, c, 0, rfl, hR, ⟨fun j hj => absurd hj (Nat.not_lt_zero j), rfl, fun h => absurd h (Nat.not_lt_zero 0), Nat.le_refl 0⟩, ⟨fun u hu => absurd hu (Nat.not_lt_zero u), un_s, fun j j0 _ => un_n j0⟩, fun _ _ => rfl, k8⟩
  simp only at s1 s2
  subst s1
  subst s2
  refine ⟨C', M', L', c', t', e.trans ?_, s3, s4, s5, s6, s7⟩
  show lp_L_acts_111 N (nI v) kont (n + 1) (nI 1) (nI g) (C', L') = _
  rw [lp_L_acts_111]
  have g5 : L' 0 5 = nI g := by rw [s6 0 (by decide)]; exact k5
  simp only [i_5, c5, g5', g5]
  rw [if_pos (Int32.le_refl _)]
end PG
