/-! ===== masks ===== -/
theorem nI_or {x y : Nat} (hx : x < 256) (hy : y < 256) : nI x ||| nI y = nI (x ||| y) := by
  unfold nI
  apply Int32.toBitVec_inj.mp
  rw [Int32.toBitVec_or, Int32.toBitVec_ofNat', Int32.toBitVec_ofNat', Int32.toBitVec_ofNat', BitVec.ofNat_or]
theorem or_256 {x y : Nat} (hx : x < 256) (hy : y < 256) : x ||| y < 256 := Nat.or_lt_two_pow (n := 8) hx hy
theorem nI_bit : ∀ k, k < 8 → (1 : Int32) <<< (nI k &&& 31) = nI (2 ^ k) := by decide +kernel
theorem bit_256 {k : Nat} (h : k < 8) : 2 ^ k < 256 := Nat.pow_lt_pow_right (by decide) h
theorem pop_7 : ∀ x, x < 256 → (((((((((0 : Int32) + ((nI x >>> ((0 : Int32) &&& 31)) &&& 1)) + ((nI x >>> (((0 : Int32) + 1) &&& 31)) &&& 1)) + ((nI x >>> ((((0 : Int32) + 1) + 1) &&& 31)) &&& 1)) + ((nI x >>> (((((0 : Int32) + 1) + 1) + 1) &&& 31)) &&& 1)) + ((nI x >>> ((((((0 : Int32) + 1) + 1) + 1) + 1) &&& 31)) &&& 1)) + ((nI x >>> (((((((0 : Int32) + 1) + 1) + 1) + 1) + 1) &&& 31)) &&& 1)) + ((nI x >>> ((((((((0 : Int32) + 1) + 1) + 1) + 1) + 1) + 1) &&& 31)) &&& 1)) + ((nI x >>> (((((((((0 : Int32) + 1) + 1) + 1) + 1) + 1) + 1) + 1) &&& 31)) &&& 1)) = nI (pop x) := by decide +kernel
theorem m_bits {x N : Nat} (hx : x < 256) (hN : 3000 ≤ N) : f_X9_bits N (nI x) = some (nI (pop x)) := by
  obtain ⟨n, rfl⟩ : ∃ n, N = n + 9 := ⟨N - 9, by omega⟩
  unfold f_X9_bits
  rw [jn, lp_X9_bits_4, if_neg (by decide), lp_X9_bits_4, if_neg (by decide), lp_X9_bits_4, if_neg (by decide), lp_X9_bits_4, if_neg (by decide), lp_X9_bits_4, if_neg (by decide), lp_X9_bits_4, if_neg (by decide), lp_X9_bits_4, if_neg (by decide), lp_X9_bits_4, if_neg (by decide), lp_X9_bits_4, if_pos (by decide), pop_7 x hx]
theorem pop_le (x : Nat) : pop x ≤ 8 := by
  unfold pop
  omega
theorem nu_256 {b : Nat → Nat} {e v : Nat} : ∀ {n : Nat}, (∀ f, f < n → f / e < 8) → nu b e v n < 256
  | 0, _ => Nat.succ_pos _
  | n + 1, h => by
    have ih := nu_256 (b := b) (e := e) (v := v) (n := n) (fun f hf => h f (by omega))
    rw [nu]
    split
    · exact or_256 ih (bit_256 (h n (by omega)))
    · exact ih
theorem x_bits {x N : Nat} (hx : x < 256) : f_J6_bitCount_0f7a4 N (nI x) = some (nI (pop x)) := by
  have h : ∀ x, x < 256 → f_J6_bitCount_0f7a4 0 (nI x) = some (nI (pop x)) := by decide +kernel
  exact h x hx
