/-! ===== words that come from the text ===== -/
def un (a : kA) (j v : Nat) : kA := fun i => if i = j then v else a i
theorem un_s {a : kA} {j v : Nat} : un a j v j = v := if_pos rfl
theorem un_n {a : kA} {i j v : Nat} (h : i ≠ j) : un a j v i = a i := if_neg h
theorem SM.un {M : kS} {a : kA} (h : SM M a) (j v : Nat) : SM (up1 M 1 (upd (M 1) j (nI v))) (un a j v) := fun i hi => by
  rw [up1_s]
  by_cases z : i = j
  · subst z
    rw [pk_us, un_s]
  · rw [pk_un z, un_n z]
    exact h i hi
theorem wm {wide v w : Nat} (h : v < w) : wide * v + wide ≤ wide * w := by
  have h1 := Nat.mul_le_mul_left wide (show v + 1 ≤ w from h)
  rw [Nat.mul_succ] at h1
  exact h1
/-- a letter more for the last word (behind r letters), or for a new one -/
def addL (ci base wide : Nat) (A : kA) (L r x : Nat) : kA := un (un (un A ci (L + 1)) (base + wide * L) (r + 1)) (base + wide * L + (r + 1)) x
def lstW (ci : Nat) (A : kA) (r : Nat) : Nat := if r = 0 then A ci else A ci - 1
def pgG (ci base wide : Nat) (a : kA) (c : Nat → Nat) : Nat → kA
  | 0 => a
  | i + 1 => if isl (c i) = true then addL ci base wide (pgG ci base wide a c i) (lstW ci (pgG ci base wide a c i) (run c i)) (run c i) (c i - 97) else pgG ci base wide a c i
def invW (ci base wide mw ml : Nat) (A : kA) (r : Nat) : Prop := A ci ≤ mw ∧ WL A base wide ml (A ci) ∧ (¬ r = 0 → 1 ≤ A ci ∧ A (base + wide * (A ci - 1)) = r)
section AA1
variable {C M : kS} {a : kA} {N t ci base wide mw ml k : Nat} {c : Nat → Nat}
theorem addL_ci {A : kA} {L r x : Nat} (h : ci < base) : addL ci base wide A L r x ci = L + 1 := by
  unfold addL
  rw [un_n (by omega), un_n (by omega), un_s]
theorem addL_at {A : kA} {L r x : Nat} : addL ci base wide A L r x (base + wide * L) = r + 1 := by
  unfold addL
  rw [un_n (by omega), un_s]
theorem addL_x {A : kA} {L r x : Nat} : addL ci base wide A L r x (base + wide * L + (r + 1)) = x := by
  unfold addL
  rw [un_s]
theorem addL_o {A : kA} {L r x j : Nat} (h1 : j ≠ ci) (h2 : j ≠ base + wide * L) (h3 : j ≠ base + wide * L + (r + 1)) : addL ci base wide A L r x j = A j := by
  unfold addL
  rw [un_n h3, un_n h2, un_n h1]
theorem lst_f {A : kA} {r : Nat} (hI : invW ci base wide mw ml A r) (h0 : r = 0 → A ci < mw) : lstW ci A r < mw ∧ lstW ci A r ≤ A ci ∧ A ci ≤ lstW ci A r + 1 ∧ (¬ r = 0 → A ci = lstW ci A r + 1 ∧ A (base + wide * lstW ci A r) = r) ∧ (r = 0 → lstW ci A r = A ci) := by
  obtain ⟨h1, h2, h3⟩ := hI
  unfold lstW
  by_cases z : r = 0
  · rw [if_pos z]
    have := h0 z
    exact ⟨this, Nat.le_refl _, by omega, fun q => absurd z q, fun _ => rfl⟩
  · rw [if_neg z]
    obtain ⟨h4, h5⟩ := h3 z
    exact ⟨by omega, by omega, by omega, fun _ => ⟨by omega, h5⟩, fun q => absurd q z⟩
theorem addL_inv {A : kA} {r x : Nat} (hI : invW ci base wide mw ml A r) (hr : r < ml) (h0 : r = 0 → A ci < mw) (hx : x < 26) (hci : ci < base) (hwd : wide = ml + 1) : invW ci base wide mw ml (addL ci base wide A (lstW ci A r) r x) (r + 1) := by
  obtain ⟨l1, l2, l3, l4, l5⟩ := lst_f hI h0
  generalize lstW ci A r = L at *
  refine ⟨?_, fun w hw => ?_, fun _ => ?_⟩
  · rw [addL_ci hci]
    omega
  · rw [addL_ci hci] at hw
    by_cases z : w = L
    · subst z
      refine ⟨by rw [addL_at]; omega, fun i hi => ?_⟩
      rw [addL_at] at hi
      by_cases y : i = r
      · subst y
        rw [show base + wide * w + 1 + i = base + wide * w + (i + 1) by omega, addL_x]
        exact hx
      · rw [addL_o (by omega) (by omega) (by omega)]
        have hr0 : ¬ r = 0 := by omega
        obtain ⟨l6, l7⟩ := l4 hr0
        exact (hI.2.1 w (by omega)).2 i (by omega)
    · have hwL : w < L := by omega
      have hm := wm (wide := wide) hwL
      obtain ⟨b1, b2⟩ := hI.2.1 w (by omega)
      rw [addL_o (by omega) (by omega) (by omega)]
      refine ⟨b1, fun i hi => ?_⟩
      rw [addL_o (by omega) (by omega) (by omega)]
      exact b2 i hi
  · rw [addL_ci hci, Nat.add_sub_cancel, addL_at]
    exact ⟨by omega, rfl⟩
theorem pgG_inv (hI : invW ci base wide mw ml a 0) (hci : ci < base) (hwd : wide = ml + 1) (hc : ∀ i, i < t → c i ≤ 126) (hok : ∀ i, i < t → isl (c i) = true → run c i < ml ∧ (run c i = 0 → pgG ci base wide a c i ci < mw)) : ∀ i, i ≤ t → invW ci base wide mw ml (pgG ci base wide a c i) (run c i)
  | 0, _ => hI
  | i + 1, h => by
    have ih := pgG_inv hI hci hwd hc hok i (by omega)
    rw [pgG, run]
    cases z : isl (c i) with
    | true =>
      simp only [↓reduceIte]
      obtain ⟨k1, k2⟩ := hok i (by omega) z
      have h97 : 97 ≤ c i ∧ c i ≤ 122 := of_decide_eq_true z
      exact addL_inv ih k1 k2 (by omega) hci hwd
    | false =>
      simp only [Bool.false_eq_true, ↓reduceIte]
      exact ⟨ih.1, ih.2.1, fun q => absurd rfl q⟩
theorem pgG_out (hI : invW ci base wide mw ml a 0) (hci : ci < base) (hwd : wide = ml + 1) (hc : ∀ i, i < t → c i ≤ 126) (hok : ∀ i, i < t → isl (c i) = true → run c i < ml ∧ (run c i = 0 → pgG ci base wide a c i ci < mw)) {j : Nat} (hj : j ≠ ci) (hj2 : j < base ∨ base + wide * mw ≤ j) : ∀ i, i ≤ t → pgG ci base wide a c i j = a j
  | 0, _ => rfl
  | i + 1, h => by
    have ih := pgG_out hI hci hwd hc hok hj hj2 i (by omega)
    have hv := pgG_inv hI hci hwd hc hok i (by omega)
    rw [pgG]
    cases z : isl (c i) with
    | true =>
      simp only [↓reduceIte]
      obtain ⟨k1, k2⟩ := hok i (by omega) z
      obtain ⟨l1, l2, l3, l4, l5⟩ := lst_f hv k2
      have hm := wm (wide := wide) l1
      rw [addL_o hj (by omega) (by omega)]
      exact ih
    | false =>
      simp only [Bool.false_eq_true, ↓reduceIte]
      exact ih
theorem x_addLetter {D : kS} {L r : Nat} {ch : Int32} (h1 : D k 1 = nI ml) (h4 : D k 4 = nI (L + 1)) (hlen : D (k + 4) L = nI r) (hr : r < ml) (hL : L < mw) (hm : mw ≤ 40) (hm2 : ml ≤ 12) (l2 : ln (k + 2) = mw * ml) (l4 : ln (k + 4) = mw) : f_X7_addLetter N D k ch = some (up1 (up1 D (k + 2) (upd (D (k + 2)) (L * ml + r) ch)) (k + 4) (upd (D (k + 4)) L (nI (r + 1)))) := by
  have h5 := row_lt hL hr
  have h6 := Nat.mul_le_mul hm hm2
  unfold f_X7_addLetter f_X7_lengthOf
  rw [h4, i_1, q_sub (by omega), Nat.add_sub_cancel, x_at (k := k + 3) l4 hL (by omega), ob, hlen, ob, h1]
  rw [if_neg (nI_pos (by omega)), if_neg (fun q => by have := (nI_leI (by omega) (by omega)).mp q; omega), pk_mul, nI_add, x_put (k := k + 1) l2 h5 (by omega), ob, nI_add, x_put (k := k + 3) l4 hL (by omega), ob, up1_n (show k + 3 + 1 ≠ k + 1 + 1 by omega)]
theorem x_addL {A : kA} {r x ch : Nat} (hW : WdC C k mw ml A (A ci) base wide) (hI : invW ci base wide mw ml A r) (hr : r < ml) (h0 : r = 0 → A ci < mw) (hci : ci < base) (hwd : wide = ml + 1) (hch : ch = 97 + x) (hm : mw ≤ 40) (hm2 : ml ≤ 12) (l2 : ln (k + 2) = mw * ml) (l4 : ln (k + 4) = mw) (kont : kS → Option kS) : ∃ C', jn (fun (C17 : kS) => (f_X7_addLetter N C17 k (nI ch)).bind (fun C22 => kont C22)) (fun j36_17 => if (nI (if r = 0 then 0 else 1)) = nI 0 then (f_X7_beginWord N C k).bind (fun C25 => j36_17 C25) else j36_17 C) = kont C' ∧ WdC C' k mw ml (addL ci base wide A (lstW ci A r) r x) ((addL ci base wide A (lstW ci A r) r x) ci) base wide ∧ ∀ j, j ≠ k → j ≠ k + 2 → j ≠ k + 4 → C' j = C j := by
  obtain ⟨l1, l2', l3, l4', l5⟩ := lst_f hI h0
  obtain ⟨w0, w1, w2, w3⟩ := hW
  -- the state in front of the letter
  have hD : ∃ D : kS, (jn (fun (C17 : kS) => (f_X7_addLetter N C17 k (nI ch)).bind (fun C22 => kont C22)) (fun j36_17 => if (nI (if r = 0 then 0 else 1)) = nI 0 then (f_X7_beginWord N C k).bind (fun C25 => j36_17 C25) else j36_17 C) = (f_X7_addLetter N D k (nI ch)).bind (fun C22 => kont C22)) ∧ D k 0 = nI mw ∧ D k 1 = nI ml ∧ D k 4 = nI (lstW ci A r + 1) ∧ D (k + 4) (lstW ci A r) = nI r ∧ (∀ j, j ≠ k → j ≠ k + 4 → D j = C j) ∧ ∀ w, w < lstW ci A r → D (k + 4) w = C (k + 4) w := by
    by_cases z : r = 0
    · have z2 := l5 z
      have z3 := h0 z
      refine ⟨up1 (up1 C (k + 4) (upd (C (k + 4)) (A ci) (nI 0))) k (upd (C k) 4 (nI (A ci + 1))), ?_, ?_, ?_, ?_, ?_, fun j h1 h2 => by rw [up1_n h1, up1_n h2], fun w hw => ?_⟩
      · simp only [jn_eq, z, ↓reduceIte]
        unfold f_X7_beginWord
        rw [w0, w2, if_neg (fun q => by have := (nI_leI (by omega) (by omega)).mp q; omega), i_0, x_put (k := k + 3) l4 z3 (by omega), ob]
        simp only [jn_eq, up1_n (show k ≠ k + 3 + 1 by omega), w2, i_1, nI_add, ob]
      · rw [up1_s, pk_un (by decide)]; exact w0
      · rw [up1_s, pk_un (by decide)]; exact w1
      · rw [up1_s, pk_us, z2]
      · rw [up1_n (show k + 4 ≠ k by omega), up1_s, z2, pk_us, z]
      · rw [up1_n (show k + 4 ≠ k by omega), up1_s, pk_un (by omega)]
    · obtain ⟨z2, z3⟩ := l4' z
      refine ⟨C, ?_, w0, w1, by rw [w2, z2], by rw [(w3 _ (by omega)).1, z3], fun _ _ _ => rfl, fun _ _ => rfl⟩
      simp only [jn_eq, z, ↓reduceIte, q_nT]
  obtain ⟨D, d1, d2, d3, d4, d5, d6, d7⟩ := hD
  rw [d1, x_addLetter d3 d4 d5 hr l1 hm hm2 l2 l4, ob]
  refine ⟨_, rfl, ⟨?_, ?_, ?_, fun w hw => ?_⟩, fun j h1 h2 h3 => by rw [up1_n h3, up1_n h2, d6 j h1 h3]⟩
  · rw [up1_n (show k ≠ k + 4 by omega), up1_n (show k ≠ k + 2 by omega)]; exact d2
  · rw [up1_n (show k ≠ k + 4 by omega), up1_n (show k ≠ k + 2 by omega)]; exact d3
  · rw [up1_n (show k ≠ k + 4 by omega), up1_n (show k ≠ k + 2 by omega), addL_ci hci]; exact d4
  · rw [addL_ci hci] at hw
    rw [up1_s, up1_n (show k + 2 ≠ k + 4 by omega), up1_s, d6 (k + 2) (by omega) (by omega)]
    generalize hLL : lstW ci A r = L at *
    by_cases z : w = L
    · subst z
      refine ⟨by rw [pk_us, addL_at], fun i hi => ?_⟩
      rw [addL_at] at hi
      by_cases y : i = r
      · subst y
        rw [pk_us, show base + wide * w + 1 + i = base + wide * w + (i + 1) by omega, addL_x, hch]
      · have hr0 : ¬ r = 0 := by omega
        obtain ⟨l6, l7⟩ := l4' hr0
        rw [pk_un (by omega), addL_o (by omega) (by omega) (by omega)]
        exact (w3 w (by omega)).2 i (by omega)
    · have hwL : w < L := by omega
      have hm3 := wm (wide := wide) hwL
      have hm4 := Nat.mul_le_mul_right ml (show w + 1 ≤ L from hwL)
      rw [Nat.succ_mul] at hm4
      obtain ⟨b1, b2⟩ := hI.2.1 w (by omega)
      rw [pk_un z, d7 w hwL, addL_o (by omega) (by omega) (by omega)]
      refine ⟨(w3 w (by omega)).1, fun i hi => ?_⟩
      rw [pk_un (by omega), addL_o (by omega) (by omega) (by omega)]
      exact (w3 w (by omega)).2 i hi
theorem TxC.cgC {C' : kS} (hT : TxC C M t c) (h1 : C' 1 1 = C 1 1) (h3 : C' 3 = C 3) : TxC C' M t c := by
  unfold TxC
  rw [h1, h3]
  exact hT
theorem x_addWords (hT : TxC C M t c) (hW : WdC C k mw ml a (a ci) base wide) (hI : invW ci base wide mw ml a 0) (hci : ci < base) (hwd : wide = ml + 1) (hm : mw ≤ 40) (hm2 : ml ≤ 12) (l2 : ln (k + 2) = mw * ml) (l4 : ln (k + 4) = mw) (hk : 5 ≤ k) (hok : ∀ i, i < t → isl (c i) = true → run c i < ml ∧ (run c i = 0 → pgG ci base wide a c i ci < mw)) (hN : 3000 ≤ N) : ∃ C', f_X7_addWordsOf N C k = some C' ∧ WdC C' k mw ml (pgG ci base wide a c t) (pgG ci base wide a c t ci) base wide ∧ ∀ j, j ≠ k → j ≠ k + 2 → j ≠ k + 4 → C' j = C j := by
  have ht := hT.1
  have hinv := pgG_inv hI hci hwd (fun i hi => (hT.2.2.2 i hi).1.2) hok
  unfold f_X7_addWordsOf
  simp only [↓jn_eq, i_0]
  obtain ⟨⟨x3, D⟩, n, ⟨g1, b0, b1⟩, e⟩ := lpN (fun n i (y : Int32 × kS) => lp_X7_addWordsOf_4 N k (fun C1 => some C1) n y.1 (nI i) y.2) (fun i y => y.1 = nI (if run c i = 0 then 0 else 1) ∧ (∀ j, j ≠ k → j ≠ k + 2 → j ≠ k + 4 → y.2 j = C j) ∧ WdC y.2 k mw ml (pgG ci base wide a c i) (pgG ci base wide a c i ci) base wide) t (fun n i y hi hJ => by
    obtain ⟨x3, D⟩ := y
    obtain ⟨g1, b0, b1⟩ := hJ
    simp only at g1 b0 b1
    subst g1
    have hTD : TxC D M t c := hT.cgC (by rw [b0 1 (by omega) (by omega) (by omega)]) (b0 3 (by omega) (by omega) (by omega))
    have hb := (hTD.2.2.2 i hi).1
    have hsz : f_X6_size N D = some (nI t) := by unfold f_X6_size; rw [hTD.2.1]
    have hat : f_X6_at N D (nI i) = some (nI (c i)) := by unfold f_X6_at; rw [x_chr hTD hi, ob]
    cases z : isl (c i) with
    | false =>
      refine ⟨(nI 0, D), ⟨?_, b0, ?_⟩, ?_⟩
      · simp only [run, z, Bool.false_eq_true, ↓reduceIte]
      · simp only [pgG, z, Bool.false_eq_true, ↓reduceIte]
        exact b1
      · show lp_X7_addWordsOf_4 N k _ (n + 1) (nI (if run c i = 0 then 0 else 1)) (nI i) D = lp_X7_addWordsOf_4 N k _ n (nI 0) (nI (i + 1)) D
        rw [lp_X7_addWordsOf_4, hsz, hat]
        simp (disch := omega) only [ob, q_le, Nat.not_le.mpr hi, ↓reduceIte, x_isLetter, z, Bool.false_eq_true, i_0, i_1, ↓jn_eq, nI_add]
    | true =>
      obtain ⟨k1, k2⟩ := hok i hi z
      have h97 : 97 ≤ c i ∧ c i ≤ 122 := of_decide_eq_true z
      obtain ⟨C', f1, f2, f3⟩ := x_addL (N := N) (C := D) (x := c i - 97) (ch := c i) b1 (hinv i (by omega)) k1 k2 hci hwd (by omega) hm hm2 l2 l4 (fun C22 => lp_X7_addWordsOf_4 N k (fun C1 => some C1) n (nI 1) (nI i + nI 1) C22)
      refine ⟨(nI 1, C'), ⟨?_, fun j j1 j2 j3 => ?_, ?_⟩, ?_⟩
      · simp only [run, z, ↓reduceIte, Nat.succ_ne_zero]
      · simp only []
        rw [f3 j j1 j2 j3]
        exact b0 j j1 j2 j3
      · simp only [pgG, z, ↓reduceIte]
        exact f2
      · show lp_X7_addWordsOf_4 N k _ (n + 1) (nI (if run c i = 0 then 0 else 1)) (nI i) D = lp_X7_addWordsOf_4 N k _ n (nI 1) (nI (i + 1)) C'
        rw [nI_add] at f1
        rw [← f1, lp_X7_addWordsOf_4, hsz, hat]
        have hat2 : ∀ C17 : kS, (C17 = D ∨ f_X7_beginWord N D k = some C17) → f_X6_at N C17 (nI i) = some (nI (c i)) := by
          intro C17 hh
          rcases hh with hh | hh
          · rw [hh]; exact hat
          · unfold f_X7_beginWord at hh
            split at hh
            · cases hh; exact hat
            · unfold f_X3_put at hh
              split at hh
              · rw [ob] at hh
                cases hh
                have hq : TxC (up1 D k (upd (D k) 4 (D k 4 + 1))) M t c := hTD.cgC (by rw [up1_n (by omega)]) (by rw [up1_n (by omega)])
                unfold f_X6_at
                rw [x_chr hq hi, ob]
              · split at hh
                · rw [ob] at hh
                  cases hh
                  have hq : TxC (up1 D k (upd (D k) 4 (D k 4 + 1))) M t c := hTD.cgC (by rw [up1_n (by omega)]) (by rw [up1_n (by omega)])
                  unfold f_X6_at
                  rw [x_chr hq hi, ob]
                · unfold gIn at hh
                  split at hh
                  · cases hh
                  · cases hh
                    have hq : TxC (up1 (up1 D (k + 3 + 1) (upd (D (k + 3 + 1)) (D k 4).toNatClampNeg 0)) k (upd (up1 D (k + 3 + 1) (upd (D (k + 3 + 1)) (D k 4).toNatClampNeg 0) k) 4 (up1 D (k + 3 + 1) (upd (D (k + 3 + 1)) (D k 4).toNatClampNeg 0) k 4 + 1))) M t c := hTD.cgC (by rw [up1_n (by omega), up1_n (by omega)]) (by rw [up1_n (by omega), up1_n (by omega)])
                    unfold f_X6_at
                    rw [x_chr hq hi, ob]
        simp (disch := omega) only [ob, q_le, Nat.not_le.mpr hi, ↓reduceIte, x_isLetter, z, i_0, q_nT, i_1, jn_eq, nI_add]
        by_cases y : run c i = 0
        · simp only [y, ↓reduceIte]
          cases hbw : f_X7_beginWord N D k with
          | none => rfl
          | some D2 =>
            rw [ob, ob, hat2 D2 (Or.inr hbw), ob]
        · simp only [y, ↓reduceIte, q_nT, hat, ob]) (N := N) 0 (nI 0, C) (Nat.zero_le _) (by omega) ⟨rfl, fun j _ _ _ => rfl, hW⟩
  simp only at g1 b0 b1
  have hTD : TxC D M t c := hT.cgC (by rw [b0 1 (by omega) (by omega) (by omega)]) (b0 3 (by omega) (by omega) (by omega))
  refine ⟨D, ?_, b1, b0⟩
  refine e.trans ?_
  show lp_X7_addWordsOf_4 N k _ (n + 1) x3 (nI t) D = _
  rw [lp_X7_addWordsOf_4]
  unfold f_X6_size
  rw [hTD.2.1]
  simp (disch := omega) only [ob, q_le, Nat.le_refl, ↓reduceIte]
end AA1
