/-! ===== numbers drawn, letters drawn, words typed ===== -/
theorem and_nn (x : Int32) : ∃ n : Nat, n < 2147483648 ∧ x &&& 2147483647 = nI n := by
  refine ⟨(x.toBitVec &&& 2147483647#32).toNat, ?_, ?_⟩
  · rw [BitVec.toNat_and]
    exact Nat.lt_of_le_of_lt Nat.and_le_right (by decide)
  · apply Int32.toBitVec_inj.mp
    show x.toBitVec &&& 2147483647#32 = BitVec.ofNat 32 (x.toBitVec &&& 2147483647#32).toNat
    rw [BitVec.ofNat_toNat, BitVec.setWidth_eq]
section MS
variable {C M L : kS} {a : kA} {N t : Nat} {c : Nat → Nat}
theorem f_low (x : Int32) {n : Nat} (h0 : 0 < n) (hn : n < 2147483648) : ∃ r, r < n ∧ f_L_low N x (nI n) = some (nI r) := by
  obtain ⟨k, hk, e⟩ := and_nn x
  unfold f_L_low
  rw [q_nz h0 hn, e, q_rem hk h0 hn]
  exact ⟨k % n, Nat.mod_lt _ h0, rfl⟩
theorem f_letters (z : Int32) {m : Nat} (hm : m ≤ 4) (hN : 3000 ≤ N) : ∃ d : Nat → Nat, (∀ i, i < m → d i < 26) ∧ f_L_letters N z (nI m) = some (lN (enc d m)) := by
  obtain ⟨x', n, ⟨d, h1, h2⟩, e⟩ := lpN (fun n i (x : Int64) => lp_L_letters_5 N z (nI m) (fun x1 => some x1) n x (nI i)) (fun i x => ∃ d : Nat → Nat, (∀ j, j < i → d j < 26) ∧ x = lN (enc d i)) m (fun n i x hi hI => by
    obtain ⟨d, h1, h2⟩ := hI
    subst h2
    obtain ⟨r, hr, e1⟩ := f_low (N := N) (z >>> ((3 * nI i) &&& 31)) (n := 6) (by decide) (by decide)
    have hs := enc_small h1 (by omega)
    have hstep : ∀ l : Nat, l < 26 → ∃ x', (∃ d : Nat → Nat, (∀ j, j < i + 1 → d j < 26) ∧ x' = lN (enc d (i + 1))) ∧ jn (lN (enc d i) <<< ((5 : Int32).toInt64 &&& 63) ||| (nI (l + 1)).toInt64) (fun x18 : Int64 => lp_L_letters_5 N z (nI m) (fun x1 => some x1) n x18 (nI i + 1)) = lp_L_letters_5 N z (nI m) (fun x1 => some x1) n x' (nI (i + 1)) := fun l hl => by
      refine ⟨lN (enc d i * 32 + (l + 1)), ⟨fun j => if j = i then l else d j, fun j hj => ?_, ?_⟩, ?_⟩
      · by_cases y : j = i
        · simp only [y, ↓reduceIte]
          exact hl
        · simp only [y, ↓reduceIte]
          exact h1 j (by omega)
      · rw [enc, if_pos rfl]
        rw [enc_congr (c := fun j => if j = i then l else d j) (d := d) (fun j hj => if_neg (by omega))]
      · rw [jn_eq, i_5, lz_shl _ (by decide), nI_l (by omega), lz_or, Nat.mul_comm, ← Nat.two_pow_add_eq_or_of_lt (show l + 1 < 2 ^ 5 by omega), nI_1]
    show ∃ x', _ ∧ lp_L_letters_5 N z (nI m) (fun x1 => some x1) (n + 1) (lN (enc d i)) (nI i) = lp_L_letters_5 N z (nI m) (fun x1 => some x1) n x' (nI (i + 1))
    rw [lp_L_letters_5, if_neg (fun q => by have := (nI_leI (by omega) (by omega)).mp q; omega), show (6 : Int32) = nI 6 by decide, e1, ob]
    have hc : r = 0 ∨ r = 1 ∨ r = 2 ∨ r = 3 ∨ r = 4 ∨ r = 5 := by omega
    rcases hc with rfl | rfl | rfl | rfl | rfl | rfl
    · obtain ⟨x', p1, p2⟩ := hstep 0 (by decide)
      exact ⟨x', p1, by rw [← p2]; simp (config := { decide := true }) only [jn_eq, ↓reduceIte]; try rfl⟩
    · obtain ⟨x', p1, p2⟩ := hstep 8 (by decide)
      exact ⟨x', p1, by rw [← p2]; simp (config := { decide := true }) only [jn_eq, ↓reduceIte]; try rfl⟩
    · obtain ⟨x', p1, p2⟩ := hstep 12 (by decide)
      exact ⟨x', p1, by rw [← p2]; simp (config := { decide := true }) only [jn_eq, ↓reduceIte]; try rfl⟩
    · obtain ⟨x', p1, p2⟩ := hstep 5 (by decide)
      exact ⟨x', p1, by rw [← p2]; simp (config := { decide := true }) only [jn_eq, ↓reduceIte]; try rfl⟩
    · obtain ⟨x', p1, p2⟩ := hstep 19 (by decide)
      exact ⟨x', p1, by rw [← p2]; simp (config := { decide := true }) only [jn_eq, ↓reduceIte]; try rfl⟩
    · obtain ⟨x', p1, p2⟩ := hstep 1 (by decide)
      exact ⟨x', p1, by rw [← p2]; simp (config := { decide := true }) only [jn_eq, ↓reduceIte]; try rfl⟩) (N := N) 0 (lN 0) (Nat.zero_le _) (by omega) ⟨fun _ => 0, fun j hj => absurd hj (Nat.not_lt_zero j), rfl⟩
  refine ⟨d, h1, ?_⟩
  unfold f_L_letters
  rw [jn_eq, i_0, lz_0]
  refine e.trans ?_
  show lp_L_letters_5 N z (nI m) (fun x1 => some x1) (n + 1) x' (nI m) = _
  rw [lp_L_letters_5, if_pos (Int32.le_refl _), h2]
/-- typing a word -/
theorem f_says (hR : RA C M a t c) {d : Nat → Nat} {n : Nat} (hd : ∀ i, i < n → d i < 26) (hn : n ≤ 5) (ht : t + n ≤ 200) (hN : 3000 ≤ N) : ∃ C' M' c', f_L_says N (C, L) (lN (enc d n)) = some (nI 1, (C', L)) ∧ RA C' M' a (t + n) c' ∧ (∀ i, i < t → c' i = c i) ∧ ∀ i, i < n → c' (t + i) = 97 + d i := by
  have hs := enc_small hd hn
  obtain ⟨⟨x6, x7, p⟩, m, ⟨s1, s2, C', M', c', s3, s4, s5, s6⟩, e⟩ := lpN (fun m i (y : Int32 × Int32 × (kS × kS)) => lp_L_says_10 N (lN (enc d n)) (fun (x3 : Int32) (p4 : kS × kS) => some (x3 &&& 1, p4)) m y.1 y.2.1 y.2.2) (fun i y => y.1 = nI 1 ∧ y.2.1 = nI (n - i) - nI 1 ∧ ∃ C' M' c', y.2.2 = (C', L) ∧ RA C' M' a (t + i) c' ∧ (∀ j, j < t → c' j = c j) ∧ ∀ j, j < i → c' (t + j) = 97 + d j) n (fun m i y hi hI => by
    obtain ⟨x6, x7, p⟩ := y
    obtain ⟨s1, s2, C', M', c', s3, s4, s5, s6⟩ := hI
    simp only at s1 s2 s3
    subst s1
    subst s2
    subst s3
    have h1 := hd i hi
    have hdv : enc d n / 32 ^ (n - 1 - i) < 2147483648 := Nat.lt_of_le_of_lt (Nat.div_le_self _ _) (by omega)
    obtain ⟨C2, M2, e1, e2⟩ := E_type (N := N) s4 (by omega) (x := 97 + d i) (by omega) (by omega)
    refine ⟨(nI 1, nI (n - (i + 1)) - nI 1, (C2, L)), ⟨rfl, rfl, C2, M2, _, rfl, e2, fun j hj => ?_, fun j hj => ?_⟩, ?_⟩
    · have z : ¬ j = t + i := by omega
      simp only [z, ↓reduceIte]
      exact s5 j hj
    · by_cases y : j = i
      · simp only [y, ↓reduceIte]
      · have z : ¬ t + j = t + i := by omega
        simp only [z, ↓reduceIte]
        exact s6 j (by omega)
    · show lp_L_says_10 N (lN (enc d n)) _ (m + 1) (nI 1) (nI (n - i) - nI 1) (C', L) = lp_L_says_10 N (lN (enc d n)) _ m (nI 1) (nI (n - (i + 1)) - nI 1) (C2, L)
      have e4 : nI (n - 1 - i) + (-nI 1 : Int32) = nI (n - (i + 1)) - nI 1 := by rw [show n - (i + 1) = n - 1 - i by omega, Int32.sub_eq_add_neg]
      rw [lp_L_says_10, i_0, i_1, q_sub (by omega), if_neg (show ¬ nI (n - i - 1) < nI 0 from nI_pos (by omega)), show n - i - 1 = n - 1 - i by omega]
      refine (jp2 (x := nI 1) (y := (C2, L)) (fun j => ?_)).trans ?_
      · rw [jn_eq, if_neg (by rw [q_nT]; exact not_false)]
        dsimp only
        rw [i_5, pk_mul, lz_shr (by omega) (by omega), p32, lz_m31, enc_digit hd hi, lN_i, show (96 : Int32) = nI 96 by decide, nI_add, show 96 + (d i + 1) = 97 + d i by omega, e1, ob, jn_eq]
        dsimp only
        rw [if_neg (by intro q; have := (nI_leI (by have := s4.tx.1; omega) (by decide)).mp q; omega)]
      · rw [e4]) (N := N) 0 (nI 1, nI (n - 0) - nI 1, (C, L)) (Nat.zero_le _) (by omega) ⟨rfl, rfl, C, M, c, rfl, hR, fun _ _ => rfl, fun j hj => absurd hj (Nat.not_lt_zero j)⟩
  refine ⟨C', M', c', ?_, s4, s5, s6⟩
  unfold f_L_says
  rw [f_lenE hd hn hN, ob]
  simp only [jn_eq]
  refine e.trans ?_
  simp only at s1 s2 s3
  show lp_L_says_10 N (lN (enc d n)) _ (m + 1) x6 x7 p = _
  rw [lp_L_says_10, s2, Nat.sub_self, if_pos (by decide), s1, s3]
  rfl
end MS
