/-! ===== the law's words: numbers to base 32 ===== -/
theorem lz_0 : (0 : Int64) = lN 0 := by decide
theorem lz_31 : (31 : Int64) = lN 31 := by decide
theorem lz_cnt : ∀ k, k < 60 → ((nI k).toInt64 &&& 63) = lN k := by decide +kernel
theorem lz_sm : ∀ k, k < 60 → (((nI k).toInt64 &&& 63).toBitVec.smod 64).toNat = k := by decide +kernel
theorem lz_smB : ∀ k, k < 60 → (lN k).toBitVec.smod 64 = BitVec.ofNat 64 k := by decide +kernel
theorem lz_or (a b : Nat) : lN a ||| lN b = lN (a ||| b) := by
  apply Int64.toBitVec_inj.1
  show BitVec.ofNat 64 a ||| BitVec.ofNat 64 b = BitVec.ofNat 64 (a ||| b)
  apply BitVec.eq_of_getLsbD_eq
  intro i hi
  simp [hi]
theorem lz_and (a b : Nat) : lN a &&& lN b = lN (a &&& b) := by
  apply Int64.toBitVec_inj.1
  show BitVec.ofNat 64 a &&& BitVec.ofNat 64 b = BitVec.ofNat 64 (a &&& b)
  apply BitVec.eq_of_getLsbD_eq
  intro i hi
  simp [hi]
theorem lz_m31 (a : Nat) : lN a &&& (31 : Int64) = lN (a % 32) := by
  rw [lz_31, lz_and, show (31 : Nat) = 2 ^ 5 - 1 from rfl, Nat.and_two_pow_sub_one_eq_mod]
theorem lz_shr {a k : Nat} (ha : a < 2147483648) (hk : k < 60) : lN a >>> ((nI k).toInt64 &&& 63) = lN (a / 2 ^ k) := by
  have hd : a / 2 ^ k ≤ a := Nat.div_le_self _ _
  apply Int64.toInt_inj.mp
  have e : (lN a >>> ((nI k).toInt64 &&& 63)).toInt = (lN a).toInt >>> k := by
    have h1 := lz_sm k hk
    generalize ((nI k).toInt64 &&& 63) = D at h1
    rw [← h1]
    exact BitVec.toInt_sshiftRight ..
  rw [e, Int.shiftRight_eq_div_pow, lN_toInt (by omega), lN_toInt (by omega)]
  rfl
theorem lz_shl (a : Nat) {k : Nat} (hk : k < 60) : lN a <<< ((nI k).toInt64 &&& 63) = lN (a * 2 ^ k) := by
  rw [lz_cnt k hk]
  apply Int64.toBitVec_inj.1
  rw [Int64.toBitVec_shiftLeft, lz_smB k hk]
  show BitVec.ofNat 64 a <<< BitVec.ofNat 64 k = BitVec.ofNat 64 (a * 2 ^ k)
  apply BitVec.eq_of_toNat_eq
  rw [BitVec.shiftLeft_eq', BitVec.toNat_shiftLeft, BitVec.toNat_ofNat, BitVec.toNat_ofNat, BitVec.toNat_ofNat, Nat.mod_eq_of_lt (show k < 2 ^ 64 by omega), Nat.shiftLeft_eq, Nat.mul_mod, Nat.mod_mod, ← Nat.mul_mod]
theorem p32 (k : Nat) : (2 : Nat) ^ (5 * k) = 32 ^ k := by rw [Nat.pow_mul]
/-- the number of the first letters of a word -/
def enc (c : Nat → Nat) : Nat → Nat
  | 0 => 0
  | i + 1 => enc c i * 32 + (c i + 1)
theorem enc_lt {c : Nat → Nat} : ∀ {n : Nat}, (∀ i, i < n → c i < 26) → enc c n < 32 ^ n
  | 0, _ => by rw [enc]; decide
  | n + 1, h => by
    have ih := enc_lt (c := c) (n := n) (fun i hi => h i (by omega))
    have h1 := h n (by omega)
    rw [enc, Nat.pow_succ]
    omega
theorem enc_div {c : Nat → Nat} : ∀ {n j : Nat}, (∀ i, i < n → c i < 26) → j ≤ n → enc c n / 32 ^ j = enc c (n - j)
  | n, 0, _, _ => by rw [Nat.pow_zero, Nat.div_one, Nat.sub_zero]
  | 0, j + 1, _, hj => absurd hj (Nat.not_succ_le_zero j)
  | n + 1, j + 1, h, hj => by
    have h1 := h n (by omega)
    rw [Nat.pow_succ', ← Nat.div_div_eq_div_mul, enc, show (enc c n * 32 + (c n + 1)) / 32 = enc c n by omega, enc_div (fun i hi => h i (by omega)) (by omega), Nat.add_sub_add_right]
theorem enc_pos {c : Nat → Nat} {n : Nat} (h : 0 < n) : 0 < enc c n := by
  obtain ⟨m, rfl⟩ : ∃ m, n = m + 1 := ⟨n - 1, by omega⟩
  rw [enc]
  omega
theorem enc_digit {c : Nat → Nat} {n k : Nat} (h : ∀ i, i < n → c i < 26) (hk : k < n) : enc c n / 32 ^ (n - 1 - k) % 32 = c k + 1 := by
  rw [enc_div h (by omega), show n - (n - 1 - k) = k + 1 by omega, enc]
  have := h k hk
  omega
theorem enc_inj {c d : Nat → Nat} : ∀ {n m : Nat}, (∀ i, i < n → c i < 26) → (∀ i, i < m → d i < 26) → enc c n = enc d m → n = m ∧ ∀ i, i < n → c i = d i
  | 0, 0, _, _, _ => ⟨rfl, fun i hi => absurd hi (Nat.not_lt_zero i)⟩
  | 0, m + 1, _, _, e => by rw [enc, enc] at e; omega
  | n + 1, 0, _, _, e => by rw [enc, enc] at e; omega
  | n + 1, m + 1, hc, hd, e => by
    have h1 := hc n (by omega)
    have h2 := hd m (by omega)
    rw [enc, enc] at e
    obtain ⟨e1, e2⟩ := enc_inj (c := c) (d := d) (n := n) (m := m) (fun i hi => hc i (by omega)) (fun i hi => hd i (by omega)) (by omega)
    refine ⟨by omega, fun i hi => ?_⟩
    rcases Nat.lt_or_ge i n with q | q
    · exact e2 i q
    · have z : i = n := by omega
      subst z
      subst e1
      omega
theorem enc_congr {c d : Nat → Nat} : ∀ {n : Nat}, (∀ i, i < n → c i = d i) → enc c n = enc d n
  | 0, _ => rfl
  | n + 1, h => by rw [enc, enc, enc_congr (fun i hi => h i (by omega)), h n (by omega)]
theorem enc_app {c d : Nat → Nat} {n : Nat} : ∀ {m : Nat}, enc (fun k => if k < n then c k else d (k - n)) (n + m) = enc c n * 32 ^ m + enc d m
  | 0 => by
    rw [Nat.add_zero, Nat.pow_zero, enc, Nat.mul_one, Nat.add_zero]
    exact enc_congr (fun i hi => if_pos hi)
  | m + 1 => by
    rw [← Nat.add_assoc, enc, enc_app, if_neg (by omega), Nat.add_sub_cancel_left, enc, Nat.pow_succ, Nat.add_mul, Nat.mul_assoc]
    omega
theorem enc_small {c : Nat → Nat} {n : Nat} (h : ∀ i, i < n → c i < 26) (hn : n ≤ 5) : enc c n < 33554432 := by
  refine Nat.lt_of_lt_of_le (enc_lt h) ?_
  exact Nat.pow_le_pow_right (n := 32) (by decide) hn
theorem lg_le0 {a b : Nat} (ha : a < 2147483648) (hb : b < 2147483648) : (lg_cmp (lN a) (lN b) ≤ (0 : Int32)) = (a ≤ b) := propext ((lg_cmp_le _ _).trans (lN_le ha hb))
theorem lg_eq0 {a b : Nat} (ha : a < 2147483648) (hb : b < 2147483648) : (lg_cmp (lN a) (lN b) = (0 : Int32)) = (a = b) := propext ((lg_cmp_eq _ _).trans (lN_eq ha hb))
/-! the length of a number -/
theorem f_len {v k N : Nat} (hv : v < 2147483648) (hk : k ≤ 10) (h0 : v / 32 ^ k = 0) (h1 : ∀ j, j < k → 0 < v / 32 ^ j) (hN : 3000 ≤ N) : f_L_length N (lN v) = some (nI k) := by
  have hd : ∀ j : Nat, v / 32 ^ j < 2147483648 := fun j => Nat.lt_of_le_of_lt (Nat.div_le_self _ _) hv
  unfold f_L_length
  simp only [jn, i_0]
  obtain ⟨n, e⟩ := lpF (fun n i (x : Int32) => lp_L_length_2 N (lN v) (fun x1 => some x1) n x) (fun i => nI i) k (fun n i hi => by
    have h2 := h1 i hi
    have h3 := hd i
    show lp_L_length_2 N (lN v) (fun x1 => some x1) (n + 1) (nI i) = lp_L_length_2 N (lN v) (fun x1 => some x1) n (nI (i + 1))
    rw [lp_L_length_2, i_5, pk_mul, lz_shr hv (by omega), p32, lz_0]
    simp only [lg_le0 h3 (show (0 : Nat) < 2147483648 by decide), Nat.not_le.mpr h2, ↓reduceIte, i_1, nI_add]) (N := N) 0 (Nat.zero_le _) (by omega)
  refine e.trans ?_
  show lp_L_length_2 N (lN v) (fun x1 => some x1) (n + 1) (nI k) = _
  rw [lp_L_length_2, i_5, pk_mul, lz_shr hv (by omega), p32, lz_0, h0, if_pos (by decide)]
theorem f_lenE {c : Nat → Nat} {n N : Nat} (h : ∀ i, i < n → c i < 26) (hn : n ≤ 5) (hN : 3000 ≤ N) : f_L_length N (lN (enc c n)) = some (nI n) := by
  have h1 := enc_small h hn
  refine f_len (by omega) (by omega) (Nat.div_eq_of_lt (enc_lt h)) (fun j hj => ?_) hN
  rw [enc_div h (by omega)]
  exact enc_pos (by omega)
/-- a word's width: the sum over its letters -/
def wS (x : Nat → Nat) (c : Nat → Nat) : Nat → Nat
  | 0 => 0
  | i + 1 => wS x c i + x (c i)
theorem wS_congr {x c d : Nat → Nat} : ∀ {n : Nat}, (∀ i, i < n → c i = d i) → wS x c n = wS x d n
  | 0, _ => rfl
  | n + 1, h => by rw [wS, wS, wS_congr (fun i hi => h i (by omega)), h n (by omega)]
theorem wS_app {x c d : Nat → Nat} {n : Nat} : ∀ {m : Nat}, wS x (fun k => if k < n then c k else d (k - n)) (n + m) = wS x c n + wS x d m
  | 0 => by
    rw [Nat.add_zero, wS, Nat.add_zero]
    exact wS_congr (fun i hi => if_pos hi)
  | m + 1 => by
    rw [← Nat.add_assoc, wS, wS_app, if_neg (by omega), Nat.add_sub_cancel_left, wS]
    omega
theorem f_wid {L : kS} {x c : Nat → Nat} {n N : Nat} (hx : ∀ k, k < 26 → L 1 k = nI (x k)) (h : ∀ i, i < n → c i < 26) (hn : n ≤ 5) (hN : 3000 ≤ N) : f_L_width N L (lN (enc c n)) = some (nI (wS x c n)) := by
  have hs := enc_small h hn
  unfold f_L_width
  rw [f_lenE h hn hN, ob]
  simp only [jn, i_0]
  obtain ⟨m, e⟩ := lpF (fun m i (y : Int32 × Int32) => lp_L_width_10 N L (lN (enc c n)) (fun x3 => some x3) m y.1 y.2) (fun i => (nI (wS x c i), nI (n - i) - 1)) n (fun m i hi => by
    have h1 := h i hi
    have hd : enc c n / 32 ^ (n - 1 - i) < 2147483648 := Nat.lt_of_le_of_lt (Nat.div_le_self _ _) (by omega)
    show lp_L_width_10 N L (lN (enc c n)) (fun x3 => some x3) (m + 1) (nI (wS x c i)) (nI (n - i) - 1) = lp_L_width_10 N L (lN (enc c n)) (fun x3 => some x3) m (nI (wS x c (i + 1))) (nI (n - (i + 1)) - 1)
    rw [lp_L_width_10, i_1, q_sub (by omega), if_neg (nI_pos (by omega)), i_5, pk_mul, show n - i - 1 = n - 1 - i by omega, lz_shr (by omega) (by omega), p32, lz_m31, enc_digit h hi, lN_i, q_sub (by omega), Nat.add_sub_cancel, q_gIn (by omega) (by decide), q_cl (by omega), hx _ h1, nI_add]
    have e2 : nI (n - 1 - i) + (-nI 1 : Int32) = nI (n - (i + 1)) - nI 1 := by
      rw [show n - (i + 1) = n - 1 - i by omega, Int32.sub_eq_add_neg]
    rw [e2]
    rfl) (N := N) 0 (Nat.zero_le _) (by omega)
  refine e.trans ?_
  show lp_L_width_10 N L (lN (enc c n)) (fun x3 => some x3) (m + 1) (nI (wS x c n)) (nI (n - n) - 1) = _
  rw [lp_L_width_10, Nat.sub_self, if_pos (by decide)]
