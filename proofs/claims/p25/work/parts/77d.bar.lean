/-! ===== the law's bars ===== -/
theorem up_eq {w st : Nat} (h : 0 < st) : (if w % st = 0 then w else w - w % st + st) = (w + st - 1) / st * st := by
  have h1 := Nat.div_add_mod w st
  have h2 := Nat.mod_lt w h
  rw [Nat.mul_comm] at h1
  generalize w / st = q at h1
  generalize w % st = r at h1 h2
  have e : w + st - 1 = st * q + (r + st - 1) := by rw [Nat.mul_comm st q]; omega
  rw [e, Nat.mul_add_div h]
  by_cases z : r = 0
  · subst z
    rw [if_pos rfl, Nat.div_eq_of_lt (by omega), Nat.add_zero]
    omega
  · rw [if_neg z, show r + st - 1 = st * 1 + (r - 1) by omega, Nat.mul_add_div h, Nat.div_eq_of_lt (show r - 1 < st by omega), Nat.add_zero, Nat.succ_mul]
    omega
def pr (a : kA) (v k j : Nat) : Prop := vl a j = true ∧ (fw a (ph a j) < v ∨ (fw a (ph a j) = v ∧ j < k))
def BI (a : kA) (L : kS) (f v k : Nat) (y : Int32 × Int32 × kS) : Prop := ∃ (n pl : Nat) (S : Nat → Nat), y.1 = nI n ∧ y.2.1 = nI pl ∧ (∀ j, j ≠ 3 → y.2.2 j = L j) ∧ n ≤ 12 ∧ pl ≤ 12 ∧ (∀ i, i < n → ∃ j, j < 12 ∧ pr a v k j ∧ S i = ph a j) ∧ (∀ i j, i < j → j < n → lf a (S i) (S j)) ∧ (∀ j, j < 12 → pr a v k j → ∃ i, i < n ∧ S i = ph a j) ∧ (∀ i, i < n → y.2.2 3 i = nI (fw a (S i))) ∧ (pr a v k f → pl < n ∧ S pl = ph a f)
section BB
variable {L : kS} {a : kA} {N f v k : Nat} {y : Int32 × Int32 × kS}
theorem BI.cg {v' k' : Nat} (h : BI a L f v k y) (hf : f < 12) (hp : ∀ j, j < 12 → (pr a v k j ↔ pr a v' k' j)) : BI a L f v' k' y := by
  obtain ⟨n, pl, S, h1, h2, h3, h4, h5, h6, h7, h8, h9, h10⟩ := h
  refine ⟨n, pl, S, h1, h2, h3, h4, h5, fun i hi => ?_, h7, fun j hj hq => h8 j hj ((hp j hj).mpr hq), h9, fun hq => h10 ((hp f hf).mpr hq)⟩
  obtain ⟨j, j1, j2, j3⟩ := h6 i hi
  exact ⟨j, j1, (hp j j1).mp j2, j3⟩
theorem BI.miss (h : BI a L f v k y) (hf : f < 12) (hm : ¬ (vl a k = true ∧ fw a (ph a k) = v)) : BI a L f v (k + 1) y := h.cg hf (fun j hj => by
  unfold pr
  constructor
  · rintro ⟨q1, q2 | ⟨q2, q3⟩⟩
    · exact ⟨q1, Or.inl q2⟩
    · exact ⟨q1, Or.inr ⟨q2, by omega⟩⟩
  · rintro ⟨q1, q2 | ⟨q2, q3⟩⟩
    · exact ⟨q1, Or.inl q2⟩
    · refine ⟨q1, Or.inr ⟨q2, ?_⟩⟩
      rcases Nat.lt_or_ge j k with z | z
      · exact z
      · have e : j = k := by omega
        subst e
        exact absurd ⟨q1, q2⟩ hm)
theorem BI.next (h : BI a L f v 12 y) (hf : f < 12) : BI a L f (v + 1) 0 y := h.cg hf (fun j hj => by
  unfold pr
  constructor
  · rintro ⟨q1, q2 | ⟨q2, q3⟩⟩
    · exact ⟨q1, Or.inl (by omega)⟩
    · exact ⟨q1, Or.inl (by omega)⟩
  · rintro ⟨q1, q2 | ⟨q2, q3⟩⟩
    · refine ⟨q1, ?_⟩
      rcases Nat.lt_or_ge (fw a (ph a j)) v with z | z
      · exact Or.inl z
      · exact Or.inr ⟨by omega, hj⟩
    · exact absurd q3 (Nat.not_lt_zero _))
theorem BI.hit (hb : LB a) (h : BI a L f v k y) (hf : f < 12) (hk : k < 12) (hv : vl a k = true) (hw : fw a (ph a k) = v) : ∃ n pl : Nat, n < 12 ∧ pl ≤ 12 ∧ y.1 = nI n ∧ y.2.1 = nI pl ∧ BI a L f v (k + 1) (nI (n + 1), (if k = f then nI n else nI pl), up1 y.2.2 3 (upd (y.2.2 3) n (nI v))) := by
  obtain ⟨n, pl, S, h1, h2, h3, h4, h5, h6, h7, h8, h9, h10⟩ := h
  have key : ∀ i, i < n → lf a (S i) (ph a k) := fun i hi => by
    obtain ⟨j, j1, ⟨j2, j3⟩, j4⟩ := h6 i hi
    rw [j4]
    unfold lf
    rcases j3 with q | ⟨q, q2⟩
    · exact Or.inl (by omega)
    · exact Or.inr ⟨by omega, ph_mono j2 q2⟩
  have hlt : n + 1 ≤ sF a := fb_holes (sF a) (n + 1) (fun i => if i = n then ph a k else S i) (fun i hi => by
    by_cases z : i = n
    · simp only [z, ↓reduceIte]
      exact ph_lt hv
    · simp only [z, ↓reduceIte]
      obtain ⟨j, j1, ⟨j2, j3⟩, j4⟩ := h6 i (by omega)
      rw [j4]
      exact ph_lt j2) (fun i j hij hj => by
    have zi : ¬ i = n := by omega
    simp only [zi, ↓reduceIte]
    intro e
    by_cases z : j = n
    · simp only [z, ↓reduceIte] at e
      have := key i (by omega)
      rw [e] at this
      exact lf_ir this
    · simp only [z, ↓reduceIte] at e
      have := h7 i j hij (by omega)
      rw [e] at this
      exact lf_ir this)
  have h12 := sF_12 hb
  refine ⟨n, pl, by omega, h5, h1, h2, n + 1, if k = f then n else pl, fun i => if i = n then ph a k else S i, rfl, ?_, fun j hj => ?_, by omega, ?_, fun i hi => ?_, fun i j hij hj => ?_, fun j hj hq => ?_, fun i hi => ?_, fun hq => ?_⟩
  · simp only
    split <;> rfl
  · simp only
    rw [up1_n hj]
    exact h3 j hj
  · split <;> omega
  · by_cases z : i = n
    · simp only [z, ↓reduceIte]
      exact ⟨k, hk, ⟨hv, Or.inr ⟨hw, Nat.lt_succ_self k⟩⟩, rfl⟩
    · simp only [z, ↓reduceIte]
      obtain ⟨j, j1, ⟨j2, j3⟩, j4⟩ := h6 i (by omega)
      exact ⟨j, j1, ⟨j2, j3.imp id (fun q => ⟨q.1, by omega⟩)⟩, j4⟩
  · have zi : ¬ i = n := by omega
    by_cases z : j = n
    · simp only [z, zi, ↓reduceIte]
      exact key i (by omega)
    · simp only [z, zi, ↓reduceIte]
      exact h7 i j hij (by omega)
  · by_cases z : j = k
    · refine ⟨n, Nat.lt_succ_self n, ?_⟩
      simp only [↓reduceIte, z]
    · obtain ⟨q1, q2⟩ := hq
      obtain ⟨i, i1, i2⟩ := h8 j hj ⟨q1, q2.imp id (fun q => ⟨q.1, by omega⟩)⟩
      have zi : ¬ i = n := by omega
      refine ⟨i, by omega, ?_⟩
      simp only [zi, ↓reduceIte]
      exact i2
  · simp only
    rw [up1_s]
    by_cases z : i = n
    · simp only [z, ↓reduceIte]
      rw [pk_us, hw]
    · simp only [z, ↓reduceIte]
      rw [pk_un z]
      exact h9 i (by omega)
  · by_cases z : k = f
    · subst z
      simp only [↓reduceIte]
      exact ⟨Nat.lt_succ_self n, trivial⟩
    · simp only [z, ↓reduceIte]
      obtain ⟨q1, q2⟩ := hq
      obtain ⟨i1, i2⟩ := h10 ⟨q1, q2.imp id (fun q => ⟨q.1, by omega⟩)⟩
      have zi : ¬ pl = n := by omega
      simp only [zi, ↓reduceIte]
      exact ⟨by omega, i2⟩
theorem BI.lr (h : BI a L f v k y) (hL : LR L a) : LR y.2.2 a := by
  obtain ⟨n, pl, S, h1, h2, h3, -⟩ := h
  exact hL.cg (h3 0 (by decide)) (h3 1 (by decide)) (h3 2 (by decide))
/-- one width: twelve forms -/
theorem f_bar77 (hw : WF a) (hb : LB a) (hL : LR L a) (hf : f < 12) (hv : v < 120) (h : BI a L f v 0 y) (kont : Int32 → Int32 → kS → Option Int32) (hN : 3000 ≤ N) : ∃ y', BI a L f (v + 1) 0 y' ∧ lp_L_bar_77 N (nI f) (nI v) kont N y.1 y.2.1 (nI 0) y.2.2 = kont y'.1 y'.2.1 y'.2.2 := by
  obtain ⟨y', m, h', e⟩ := lpN (fun m k (y : Int32 × Int32 × kS) => lp_L_bar_77 N (nI f) (nI v) kont m y.1 y.2.1 (nI k) y.2.2) (fun k y => BI a L f v k y) 12 (fun m k y hk hI => by
    obtain ⟨x1, x2, C⟩ := y
    have hLC : LR C a := hI.lr hL
    have hfv := fv_lt hw hb k
    have hcmp : (lg_cmp (lN (fv a k)) (lN 0) ≤ (0 : Int32)) = ¬ (vl a k = true) := by
      rw [lg_le0 (by omega) (by decide), ← fv_pos hw k]
      exact propext Nat.not_lt.symm
    have hstep : lp_L_bar_77 N (nI f) (nI v) kont (m + 1) x1 x2 (nI k) C = if vl a k = true then (if fw a (ph a k) = v then gIn x1 12 (lp_L_bar_77 N (nI f) (nI v) kont m (x1 + 1) (if k = f then x1 else x2) (nI (k + 1)) (up1 C 3 (upd (C 3) x1.toNatClampNeg (nI v)))) else lp_L_bar_77 N (nI f) (nI v) kont m x1 x2 (nI (k + 1)) C) else lp_L_bar_77 N (nI f) (nI v) kont m x1 x2 (nI (k + 1)) C := by
      rw [lp_L_bar_77, show (12 : Int32) = nI 12 by decide, f_form hw hb hLC hk hN, ob, lz_0]
      simp only [ob, hcmp, q_le (show 12 < 2147483648 by decide) (show k < 2147483648 by omega), Nat.not_le.mpr hk, ↓reduceIte, jn, i_1, nI_add]
      cases z : vl a k with
      | false => simp only [Bool.false_eq_true, not_false_eq_true, ↓reduceIte]
      | true =>
        have b := fw_b hw hb z
        simp only [not_true_eq_false, ↓reduceIte]
        rw [f_fwid hw hb hLC z hN, ob]
        simp only [q_eq (show fw a (ph a k) < 2147483648 by omega) (show v < 2147483648 by omega), q_eq (show k < 2147483648 by omega) (show f < 2147483648 by omega)]
        by_cases e1 : fw a (ph a k) = v
        · simp only [e1, ↓reduceIte]
          by_cases e2 : k = f
          · simp only [e2, ↓reduceIte]
          · simp only [e2, ↓reduceIte]
        · simp only [e1, ↓reduceIte]
    by_cases z : vl a k = true ∧ fw a (ph a k) = v
    · obtain ⟨n, pl, n1, n2, n3, n4, n5⟩ := hI.hit hb hf hk z.1 z.2
      simp only at n3 n4 n5
      refine ⟨_, n5, ?_⟩
      show lp_L_bar_77 N (nI f) (nI v) kont (m + 1) x1 x2 (nI k) C = _
      rw [hstep, if_pos z.1, if_pos z.2, n3, n4, show (12 : Nat) = 12 from rfl, q_gIn (by omega) (by decide), q_cl (by omega), i_1, nI_add]
    · refine ⟨(x1, x2, C), hI.miss hf z, ?_⟩
      show lp_L_bar_77 N (nI f) (nI v) kont (m + 1) x1 x2 (nI k) C = lp_L_bar_77 N (nI f) (nI v) kont m x1 x2 (nI (k + 1)) C
      rw [hstep]
      by_cases z1 : vl a k = true
      · rw [if_pos z1, if_neg (fun q => z ⟨z1, q⟩)]
      · rw [if_neg z1]) (N := N) 0 y (Nat.zero_le _) (by omega) h
  refine ⟨y', h'.next hf, e.trans ?_⟩
  show lp_L_bar_77 N (nI f) (nI v) kont (m + 1) y'.1 y'.2.1 (nI 12) y'.2.2 = _
  rw [lp_L_bar_77, if_pos (by decide)]
theorem f_bar67 (hw : WF a) (hb : LB a) (hL : LR L a) (hf : f < 12) (h : BI a L f 1 0 y) (kont : Int32 → Int32 → kS → Option Int32) (hN : 3000 ≤ N) : ∃ y', BI a L f 120 0 y' ∧ lp_L_bar_67 N (nI f) kont N y.1 y.2.1 1 y.2.2 = kont y'.1 y'.2.1 y'.2.2 := by
  obtain ⟨y', m, h', e⟩ := lpN (fun m i (y : Int32 × Int32 × kS) => lp_L_bar_67 N (nI f) kont m y.1 y.2.1 (nI (i + 1)) y.2.2) (fun i y => BI a L f (i + 1) 0 y) 119 (fun m i y hi hI => by
    obtain ⟨y2, h2, e2⟩ := f_bar77 (N := N) hw hb hL hf (by omega) hI (fun x27 x28 C29 => lp_L_bar_67 N (nI f) kont m x27 x28 (nI (i + 1) + 1) C29) hN
    refine ⟨y2, h2, ?_⟩
    show lp_L_bar_67 N (nI f) kont (m + 1) y.1 y.2.1 (nI (i + 1)) y.2.2 = lp_L_bar_67 N (nI f) kont m y2.1 y2.2.1 (nI (i + 1 + 1)) y2.2.2
    rw [lp_L_bar_67, if_neg (by rw [show (120 : Int32) = nI 120 by decide]; intro q; have := (nI_leI (by decide) (by omega)).mp q; omega)]
    simp only [jn]
    rw [i_0, e2, i_1, nI_add]) (N := N) 0 y (Nat.zero_le _) (by omega) h
  refine ⟨y', h', e.trans ?_⟩
  show lp_L_bar_67 N (nI f) kont (m + 1) y'.1 y'.2.1 (nI 120) y'.2.2 = _
  rw [lp_L_bar_67, if_pos (by decide)]
theorem BI.fin (hw : WF a) (hb : LB a) (h : BI a L f 120 0 y) (hf : vl a f = true) (hf2 : f < 12) : y.1 = nI (sF a) ∧ y.2.1 = nI (rk a (ph a f)) ∧ (∀ i, i < sF a → y.2.2 3 i = nI (fw a (srt a i))) := by
  obtain ⟨n, pl, S, h1, h2, h3, h4, h5, h6, h7, h8, h9, h10⟩ := h
  have hall : ∀ j, vl a j = true → pr a 120 0 j := fun j hj => ⟨hj, Or.inl (by have := fw_b hw hb hj; omega)⟩
  have hS1 : ∀ i, i < n → S i < sF a := fun i hi => by
    obtain ⟨j, j1, ⟨j2, -⟩, j4⟩ := h6 i hi
    rw [j4]
    exact ph_lt j2
  have hne : ∀ i j, i < j → j < n → S i ≠ S j := fun i j hij hj e => by
    have := h7 i j hij hj
    rw [e] at this
    exact lf_ir this
  have hn1 : n ≤ sF a := fb_holes (sF a) n S hS1 hne
  have hon : ∀ g, g < sF a → ∃ i, i < n ∧ S i = g := fun g hg => by
    obtain ⟨u1, u2, u3, -⟩ := ul_ok hb hg
    obtain ⟨i, i1, i2⟩ := h8 (ul a g) u3 (hall _ u1)
    exact ⟨i, i1, by rw [i2, u2]⟩
  have hn2 : sF a ≤ n := fb_holes n (sF a) (fun g => if h : g < sF a then Classical.choose (hon g h) else 0) (fun g hg => by
    simp only [hg, ↓reduceDIte]
    exact (Classical.choose_spec (hon g hg)).1) (fun g g' hgg hg' e => by
    have hg : g < sF a := by omega
    simp only [hg, hg', ↓reduceDIte] at e
    have e1 := (Classical.choose_spec (hon g hg)).2
    have e2 := (Classical.choose_spec (hon g' hg')).2
    rw [e] at e1
    omega)
  have hn : n = sF a := by omega
  subst hn
  have hSrt : Srt a S (sF a) := ⟨hS1, h7⟩
  obtain ⟨p1, p2⟩ := h10 (hall f hf)
  refine ⟨h1, ?_, fun i hi => ?_⟩
  · rw [h2, ← p2, hSrt.rk p1]
  · rw [h9 i hi, hSrt.srt hi]
theorem f_bar (hw : WF a) (hb : LB a) (hL : LR L a) {f : Nat} (hf : vl a f = true) (hf2 : f < 12) (hN : 3000 ≤ N) : f_L_bar N L (nI (a 3)) (nI (a 4)) (nI f) = some (nI (bw a (a 3) (a 4) (ph a f))) := by
  have w3 := hw.2.2.2.1
  have w4 := hw.2.2.2.2.1
  have w5 := hw.2.2.2.2.2.1
  have b := fw_b hw hb hf
  have h12 := sF_12 hb
  have hph := ph_lt hf
  have hrk := rk_lt hph
  unfold f_L_bar bw
  rw [f_form hw hb hL hf2 hN, ob, f_fwid hw hb hL hf hN, ob, i_2]
  simp only [q_le (show 2 < 2147483648 by decide) (show a 3 < 2147483648 by omega)]
  by_cases z2 : 2 ≤ a 3
  · have e1 : ¬ a 3 = 1 := by omega
    simp only [z2, e1, ↓reduceIte, jn]
    have hI : BI a L f 1 0 ((0 : Int32), (0 : Int32), up1 L 3 (fun _ => 0)) := ⟨0, 0, fun _ => 0, i_0, i_0, fun j hj => up1_n hj, by decide, by decide, fun i hi => absurd hi (Nat.not_lt_zero i), fun i j _ hj => absurd hj (Nat.not_lt_zero j), fun j hj hq => absurd hq.2 (by
      have := fw_b hw hb hq.1
      omega), fun i hi => absurd hi (Nat.not_lt_zero i), fun hq => absurd hq.2 (by
      have := fw_b hw hb hq.1
      omega)⟩
    obtain ⟨⟨x1, x2, C⟩, h', e⟩ := f_bar67 (N := N) hw hb hL hf2 hI _ hN
    simp only at e
    refine e.trans ?_
    have hLC : LR C a := h'.lr hL
    obtain ⟨f1, f2, f3⟩ := h'.fin hw hb hf hf2
    simp only at f1 f2 f3
    have hg : C 0 2 = nI (a 5) := hLC.1.1.2.2.1
    subst f1
    subst f2
    have hidx : ∀ t, 1 ≤ t → t ≤ sF a → gIn (nI t - 1) 12 (some (C 3 (nI t - 1).toNatClampNeg)) = some (nI (fw a (srt a (t - 1)))) := fun t t1 t2 => by
      rw [i_1, q_sub t1, q_gIn (by omega) (by decide), q_cl (by omega), f3 _ (by omega)]
    rw [i_3, q_gIn (by decide) (by decide), q_cl (by decide), hg]
    simp only [q_eq (show a 3 < 2147483648 by omega) (show 3 < 2147483648 by decide)]
    by_cases z3 : a 3 = 3
    · have e2 : ¬ a 3 = 2 := by omega
      have e3 : ¬ sF a + a 5 ≤ sF a := by omega
      simp only [z3, ↓reduceIte, nI_add, q_le (show sF a + a 5 < 2147483648 by omega) (show sF a < 2147483648 by omega), e3, hidx _ (show 1 ≤ sF a by omega) (Nat.le_refl _)]
      simp (config := { decide := true }) only [↓reduceIte]
    · have e2 : a 3 = 2 := by omega
      rw [if_neg z3, if_pos e2, q_nz (by omega) (by omega), q_div (by omega) (by omega) (by omega), i_1, nI_add, pk_mul, nI_add]
      have hq : (rk a (ph a f) / a 5 + 1) * a 5 ≤ 20 := by
        have h1 : rk a (ph a f) / a 5 * a 5 ≤ rk a (ph a f) := Nat.div_mul_le_self _ _
        rw [Nat.succ_mul]
        omega
      have hq1 : 1 ≤ (rk a (ph a f) / a 5 + 1) * a 5 := Nat.mul_pos (Nat.succ_pos _) (by omega)
      have hiff : ((rk a (ph a f) / a 5 + 1) * a 5 + a 5 ≤ sF a) = (rk a (ph a f) / a 5 + 1 < sF a / a 5) := by
        rw [← Nat.succ_mul]
        exact propext (Nat.le_div_iff_mul_le (by omega)).symm
      unfold eog
      simp only [q_le (show (rk a (ph a f) / a 5 + 1) * a 5 + a 5 < 2147483648 by omega) (show sF a < 2147483648 by omega), hiff]
      by_cases z4 : rk a (ph a f) / a 5 + 1 < sF a / a 5
      · have z5 : (rk a (ph a f) / a 5 + 1) * a 5 + a 5 ≤ sF a := by rw [hiff]; exact z4
        have h6 := hidx _ hq1 (by omega)
        rw [i_1] at h6
        simp only [z4, ↓reduceIte, h6, q_gIn (show 2 < 8 by decide) (show 8 ≤ 100000 by decide)]
        rw [Nat.succ_mul]
      · have h6 := hidx (sF a) (by omega) (Nat.le_refl _)
        rw [i_1] at h6
        simp only [z4, ↓reduceIte, h6, q_gIn (show 2 < 8 by decide) (show 8 ≤ 100000 by decide)]
  · simp only [z2, ↓reduceIte, jn, i_0, q_eq (show a 3 < 2147483648 by omega) (show 0 < 2147483648 by decide)]
    by_cases z0 : a 3 = 0
    · have e1 : ¬ a 3 = 1 := by omega
      have e2 : ¬ a 3 = 2 := by omega
      have e3 : ¬ a 3 = 3 := by omega
      simp only [z0, ↓reduceIte]
      simp (config := { decide := true }) only [↓reduceIte]
    · have e1 : a 3 = 1 := by omega
      rw [if_neg z0, if_pos e1, q_nz (by omega) (by omega), q_rem (by omega) (by omega) (by omega), q_nz (by omega) (by omega), ← up_eq (by omega)]
      have h1 := Nat.mod_le (fw a (ph a f)) (a 4)
      simp only [q_eq (show fw a (ph a f) % a 4 < 2147483648 by omega) (show 0 < 2147483648 by decide)]
      by_cases z : fw a (ph a f) % a 4 = 0
      · simp only [z, ↓reduceIte]
      · simp only [z, ↓reduceIte]
        rw [q_sub h1, nI_add]
end BB
