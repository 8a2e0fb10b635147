/-! ===== the law's acts: settings, widths ===== -/
def RW (C L : kS) : Prop := ∃ M a t c, RA C M a t c ∧ LB a ∧ LR L a
def XQ (E : Option (Int32 × (kS × kS))) : Prop := ∃ q : kS × kS, E = some (nI 1, q) ∧ RW q.1 q.2
theorem XQ.of {E E' : Option (Int32 × (kS × kS))} (e : E = E') (h : XQ E') : XQ E := by
  rw [e]
  exact h
theorem XQ.fin {C L : kS} (h : RW C L) : XQ (some (nI 1 &&& nI 1, (C, L))) := ⟨(C, L), by rw [q_and1], h⟩
section SEL
variable {α : Type} {P Q : α} {r : Nat}
theorem nI_ne {m : Nat} (hr : r < 18) (hm : m < 18) (h : r ≠ m) : ¬ nI r = nI m := fun q => h ((nI_eq (by omega) (by omega)).mp q)
theorem sel3 (h : r < 3) : (if nI r = nI 0 then P else if nI r = nI 1 then P else if nI r = nI 2 then P else Q) = P := by
  rcases (show r = 0 ∨ r = 1 ∨ r = 2 by omega) with rfl | rfl | rfl
  · rw [if_pos rfl]
  · rw [if_neg (by decide), if_pos rfl]
  · rw [if_neg (by decide), if_neg (by decide), if_pos rfl]
theorem sel3n (hr : r < 18) (h : 3 ≤ r) : (if nI r = nI 0 then P else if nI r = nI 1 then P else if nI r = nI 2 then P else Q) = Q := by
  rw [if_neg (nI_ne hr (by decide) (by omega)), if_neg (nI_ne hr (by decide) (by omega)), if_neg (nI_ne hr (by decide) (by omega))]
theorem sel4 (h : 3 ≤ r) (h2 : r < 7) : (if nI r = nI 3 then P else if nI r = nI 4 then P else if nI r = nI 5 then P else if nI r = nI 6 then P else Q) = P := by
  rcases (show r = 3 ∨ r = 4 ∨ r = 5 ∨ r = 6 by omega) with rfl | rfl | rfl | rfl
  · rw [if_pos rfl]
  · rw [if_neg (by decide), if_pos rfl]
  · rw [if_neg (by decide), if_neg (by decide), if_pos rfl]
  · rw [if_neg (by decide), if_neg (by decide), if_neg (by decide), if_pos rfl]
theorem sel4n (hr : r < 18) (h : 7 ≤ r) : (if nI r = nI 3 then P else if nI r = nI 4 then P else if nI r = nI 5 then P else if nI r = nI 6 then P else Q) = Q := by
  rw [if_neg (nI_ne hr (by decide) (by omega)), if_neg (nI_ne hr (by decide) (by omega)), if_neg (nI_ne hr (by decide) (by omega)), if_neg (nI_ne hr (by decide) (by omega))]
theorem sel2a (h : 7 ≤ r) (h2 : r < 9) : (if nI r = nI 7 then P else if nI r = nI 8 then P else Q) = P := by
  rcases (show r = 7 ∨ r = 8 by omega) with rfl | rfl
  · rw [if_pos rfl]
  · rw [if_neg (by decide), if_pos rfl]
theorem sel2an (hr : r < 18) (h : 9 ≤ r) : (if nI r = nI 7 then P else if nI r = nI 8 then P else Q) = Q := by
  rw [if_neg (nI_ne hr (by decide) (by omega)), if_neg (nI_ne hr (by decide) (by omega))]
theorem sel2b (h : 11 ≤ r) (h2 : r < 13) : (if nI r = nI 11 then P else if nI r = nI 12 then P else Q) = P := by
  rcases (show r = 11 ∨ r = 12 by omega) with rfl | rfl
  · rw [if_pos rfl]
  · rw [if_neg (by decide), if_pos rfl]
theorem sel2bn (hr : r < 18) (h : 13 ≤ r) : (if nI r = nI 11 then P else if nI r = nI 12 then P else Q) = Q := by
  rw [if_neg (nI_ne hr (by decide) (by omega)), if_neg (nI_ne hr (by decide) (by omega))]
end SEL
section AC
variable {C M L : kS} {a : kA} {N t v r : Nat} {c : Nat → Nat} {z : Int32}
theorem LB.cg {a' : kA} (hb : LB a) (h : ∀ j, (j < 3 ∨ 34 ≤ j) → a' j = a j) : LB a' := by
  obtain ⟨b0, b1, b2, bp, bn, be⟩ := hb
  refine ⟨by rw [h 0 (by decide)]; exact b0, by rw [h 1 (by decide)]; exact b1, by rw [h 2 (by decide)]; exact b2, fun w hw => ?_, fun n hn => ?_, fun e he => ?_⟩
  · rw [h 0 (by decide)] at hw
    rw [h _ (by omega)]
    exact bp w hw
  · rw [h 1 (by decide)] at hn
    rw [h _ (by omega)]
    exact bn n hn
  · rw [h 2 (by decide)] at he
    rw [h _ (by omega)]
    exact be e he
theorem lc_cg {a' : kA} {p : Nat} (h : ∀ j, p ≤ j → a' j = a j) : lc a' p = lc a p := by
  funext i
  exact h _ (by omega)
theorem LR.s (h : LR L a) {i : Nat} (hi : i < 5) : L 0 i = nI (a (3 + i)) := by
  obtain ⟨⟨⟨g0, g1, g2, g3, g4⟩, -⟩, -⟩ := h
  obtain rfl | rfl | rfl | rfl | rfl : i = 0 ∨ i = 1 ∨ i = 2 ∨ i = 3 ∨ i = 4 := by omega
  · exact g0
  · exact g1
  · exact g2
  · exact g3
  · exact g4
theorem LR.mk (h0 : ∀ i, i < 5 → L 0 i = nI (a (3 + i))) (h5 : L 0 5 = nI (a 0)) (h6 : L 0 6 = nI (a 1)) (h7 : L 0 7 = nI (a 2)) (h1 : ∀ k, k < 26 → L 1 k = nI (a (8 + k))) (hw : ∀ w, w < a 0 → L 2 w = nI (enc (lc a (34 + 13 * w)) (a (34 + 13 * w)))) (hn : ∀ n, n < a 1 → L 2 (8 + n) = nI (enc (lc a (554 + 9 * n)) (a (554 + 9 * n)))) (he : ∀ e, e < a 2 → L 2 (12 + e) = nI (enc (lc a (626 + 4 * e)) (a (626 + 4 * e)))) : LR L a := ⟨⟨⟨h0 0 (by decide), h0 1 (by decide), h0 2 (by decide), h0 3 (by decide), h0 4 (by decide)⟩, h5, h6, h7⟩, h1, hw, hn, he⟩
theorem i_181 : (181 : Int32) = nI 181 := by decide
theorem i_130 : (130 : Int32) = nI 130 := by decide
theorem i_64 : (64 : Int32) = nI 64 := by decide
def setV (v : Nat) : Nat := if v % 5 = 0 then v / 5 % 4 else if v % 5 = 1 then 1 + v / 5 % 50 else if v % 5 = 2 then 1 + v / 5 % 8 else if v % 5 = 3 then 1 + v / 5 % 9 else 20 + v / 5 % (if v % 2 = 0 then 181 else 40)
theorem setV_ok (v : Nat) : lvN (v % 5) ≤ setV v ∧ setV v ≤ gvN (v % 5) := by
  unfold lvN gvN setV
  rcases (show v % 5 = 0 ∨ v % 5 = 1 ∨ v % 5 = 2 ∨ v % 5 = 3 ∨ v % 5 = 4 by omega) with e | e | e | e | e <;> rw [e] <;> simp (config := { decide := true }) only [↓reduceIte]
  · omega
  · omega
  · omega
  · omega
  · split <;> omega
theorem A_set (hR : RA C M a t c) (hb : LB a) (hL : LR L a) (hv : v < 10000000) (h1 : f_L_low N (z >>> (nI 5 &&& 31)) 10000000 = some (nI v)) (h2 : f_L_low N z 18 = some (nI r)) (hr : r < 18) (hr2 : 13 ≤ r) (hN : 3000 ≤ N) : XQ (f_L_acts N (C, L) z) := by
  obtain ⟨C1, M1, e1, hR1⟩ := E_clear (N := N) hR
  have ht := hR.tx.1
  unfold f_L_acts
  rw [i_5, h1, ob]
  dsimp only
  rw [e1, ob, jn_eq]
  dsimp only
  simp only [i_0, i_1, i_2, i_3, i_4, i_5, i_6, i_7, i_8, i_9, i_10, i_11, i_12]
  refine XQ.of (jp1 (x := nI 1) (fun j => if_neg (nI_pos (by omega)))) ?_
  try dsimp only
  rw [h2, ob, jn_eq, jn_eq, jn_eq, jn_eq, sel3n hr (by omega), sel4n hr (by omega), sel2an hr (by omega), if_neg (nI_ne hr (by decide) (by omega)), if_neg (nI_ne hr (by decide) (by omega)), sel2bn hr (by omega), q_nz (by decide) (by decide)]
  have h5 : nI v - nI v / nI 5 * nI 5 = nI (v % 5) := q_rem (by omega) (by decide) (by decide)
  have hd5 : nI v / nI 5 = nI (v / 5) := q_div (by omega) (by decide) (by decide)
  have hm2 : nI v - nI v / nI 2 * nI 2 = nI (v % 2) := q_rem (by omega) (by decide) (by decide)
  simp only [h5, hm2]
  simp only [hd5]
  have hval : setV v < 2147483648 := by
    have := (setV_ok v).2
    unfold gvN at this
    split at this
    · omega
    · split at this
      · omega
      · split at this
        · omega
        · split at this <;> omega
  refine XQ.of (jp1 (x := nI (setV v)) (fun j => ?_)) ?_
  · have q4 : nI (v / 5) - nI (v / 5) / nI 4 * nI 4 = nI (v / 5 % 4) := q_rem (by omega) (by decide) (by decide)
    have q50 : nI (v / 5) - nI (v / 5) / nI 50 * nI 50 = nI (v / 5 % 50) := q_rem (by omega) (by decide) (by decide)
    have q8 : nI (v / 5) - nI (v / 5) / nI 8 * nI 8 = nI (v / 5 % 8) := q_rem (by omega) (by decide) (by decide)
    have q9 : nI (v / 5) - nI (v / 5) / nI 9 * nI 9 = nI (v / 5 % 9) := q_rem (by omega) (by decide) (by decide)
    have q181 : nI (v / 5) - nI (v / 5) / nI 181 * nI 181 = nI (v / 5 % 181) := q_rem (by omega) (by decide) (by decide)
    have q40 : nI (v / 5) - nI (v / 5) / nI 40 * nI 40 = nI (v / 5 % 40) := q_rem (by omega) (by decide) (by decide)
    have z5 : ∀ x : Option (Int32 × (kS × kS)), gNz (nI 5) x = x := fun x => q_nz (by decide) (by decide)
    have z4 : ∀ x : Option (Int32 × (kS × kS)), gNz (nI 4) x = x := fun x => q_nz (by decide) (by decide)
    have z50 : ∀ x : Option (Int32 × (kS × kS)), gNz (nI 50) x = x := fun x => q_nz (by decide) (by decide)
    have z8 : ∀ x : Option (Int32 × (kS × kS)), gNz (nI 8) x = x := fun x => q_nz (by decide) (by decide)
    have z9 : ∀ x : Option (Int32 × (kS × kS)), gNz (nI 9) x = x := fun x => q_nz (by decide) (by decide)
    have z2 : ∀ x : Option (Int32 × (kS × kS)), gNz (nI 2) x = x := fun x => q_nz (by decide) (by decide)
    have z181 : ∀ x : Option (Int32 × (kS × kS)), gNz (nI 181) x = x := fun x => q_nz (by decide) (by decide)
    have z40 : ∀ x : Option (Int32 × (kS × kS)), gNz (nI 40) x = x := fun x => q_nz (by decide) (by decide)
    simp only [i_50, i_20, i_181, i_40, q4, q50, q8, q9, z5, z4, z50, z8, z9, z2, jn_eq, z181, z40, q181, q40, nI_add]
    unfold setV
    have hm := Nat.mod_lt v (show 0 < 5 by decide)
    have hm2 := Nat.mod_lt v (show 0 < 2 by decide)
    simp only [q_eq (show v % 5 < 2147483648 by omega) (show 0 < 2147483648 by decide), q_eq (show v % 5 < 2147483648 by omega) (show 1 < 2147483648 by decide), q_eq (show v % 5 < 2147483648 by omega) (show 2 < 2147483648 by decide), q_eq (show v % 5 < 2147483648 by omega) (show 3 < 2147483648 by decide), q_eq (show v % 2 < 2147483648 by omega) (show 0 < 2147483648 by decide)]
    split
    · rfl
    · split
      · rfl
      · split
        · rfl
        · split
          · rfl
          · split <;> rfl
  try dsimp only
  have hm := Nat.mod_lt v (show 0 < 5 by decide)
  obtain ⟨C2, M2, e2, hR2⟩ := E_set (N := N) hR1 (k := v % 5) (y := setV v) hm (setV_ok v) hN
  rw [q_gIn (by omega) (by decide), q_gIn (by omega) (by decide), q_cl (by omega), jn_eq]
  dsimp only
  refine XQ.of (jp2 (x := nI 1) (y := (C2, up1 L 0 (upd (L 0) (v % 5) (nI (setV v))))) (fun j => ?_)) ?_
  · rw [if_neg (by rw [q_nT]; exact not_false), e2, ob, jn_eq]
    dsimp only
    rw [if_pos (hL.s hm).symm]
  refine XQ.fin ⟨M2, _, _, _, hR2, hb.cg (fun j hj => un_n (by omega)), ?_⟩
  have hlc : ∀ p, 34 ≤ p → lc (un a (3 + v % 5) (setV v)) p = lc a p := fun p hp => lc_cg (fun j hj => un_n (by omega))
  refine LR.mk (fun i hi => ?_) ?_ ?_ ?_ (fun k hk => ?_) (fun w hw => ?_) (fun n hn => ?_) (fun e he => ?_)
  · rw [up1_s]
    by_cases y : i = v % 5
    · rw [y, pk_us, un_s]
    · rw [pk_un y, un_n (by omega)]
      exact hL.s hi
  · rw [up1_s, pk_un (by omega), un_n (by omega)]
    exact hL.1.2.1
  · rw [up1_s, pk_un (by omega), un_n (by omega)]
    exact hL.1.2.2.1
  · rw [up1_s, pk_un (by omega), un_n (by omega)]
    exact hL.1.2.2.2
  · rw [up1_n (by decide), un_n (by omega)]
    exact hL.2.1 k hk
  · rw [un_n (by omega)] at hw
    rw [up1_n (by decide), hlc _ (by omega), un_n (by omega)]
    exact hL.2.2.1 w hw
  · rw [un_n (by omega)] at hn
    rw [up1_n (by decide), hlc _ (by omega), un_n (by omega)]
    exact hL.2.2.2.1 n hn
  · rw [un_n (by omega)] at he
    rw [up1_n (by decide), hlc _ (by omega), un_n (by omega)]
    exact hL.2.2.2.2 e he
end AC
