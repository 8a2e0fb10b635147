/-! ===== shown widths, names under bars, ones ===== -/
def nl (a : kA) (b : Nat → Nat) (v : Nat) : Nat → Nat
  | 0 => 0
  | k + 1 => if vl a k = true ∧ b (ph a k) = v then nl a b v k ||| 2 ^ (k / 3) else nl a b v k
theorem nl_12 {a : kA} (b : Nat → Nat) (v : Nat) (hb : LB a) : nl a b v 12 = nu b (a 2 + 1) v (sF a) := by
  have h1 := hb.2.1
  have h2 := hb.2.2.1
  unfold sF
  have e1 : a 1 = 0 ∨ a 1 = 1 ∨ a 1 = 2 ∨ a 1 = 3 ∨ a 1 = 4 := by omega
  have e2 : a 2 = 0 ∨ a 2 = 1 ∨ a 2 = 2 := by omega
  rcases e1 with e1 | e1 | e1 | e1 | e1 <;> rcases e2 with e2 | e2 | e2 <;> simp [nl, nu, vl, ph, e1, e2]
theorem nl_256 {a : kA} {b : Nat → Nat} {v : Nat} : ∀ {k : Nat}, k ≤ 12 → nl a b v k < 256
  | 0, _ => Nat.succ_pos _
  | k + 1, h => by
    have ih := nl_256 (a := a) (b := b) (v := v) (k := k) (by omega)
    rw [nl]
    split
    · exact or_256 ih (bit_256 (by omega))
    · exact ih
def stp (x : Nat) : Nat := x &&& (x - 1)
theorem stp_ok : ∀ x, x < 256 → 0 < x → (nI x &&& (nI x - 1) = nI (stp x) ∧ stp x < 256 ∧ pop (stp x) + 1 = pop x) := by decide +kernel
theorem pop_0 : ∀ x, x < 256 → pop x = 0 → x = 0 := by decide +kernel
theorem pop_1 : ∀ x, x < 256 → 0 < pop x → 0 < x := by decide +kernel
theorem f_onesL {N : Nat} (kont : Int32 → Option Int32) : ∀ (p x c n : Nat), x < 256 → pop x = p → p < n → lp_L_ones_4 N kont n (nI c) (nI x) = kont (nI (c + p))
  | 0, x, c, n, hx, hp, hn => by
    obtain ⟨m, rfl⟩ : ∃ m, n = m + 1 := ⟨n - 1, by omega⟩
    have := pop_0 x hx hp
    subst this
    rw [lp_L_ones_4, if_pos (by decide), Nat.add_zero]
  | p + 1, x, c, n, hx, hp, hn => by
    obtain ⟨m, rfl⟩ : ∃ m, n = m + 1 := ⟨n - 1, by omega⟩
    have h0 := pop_1 x hx (by omega)
    obtain ⟨s1, s2, s3⟩ := stp_ok x hx h0
    have h1 : ¬ nI x ≤ 0 := by
      rw [i_0]
      intro q
      have := (nI_leI (by omega) (by decide)).mp q
      omega
    rw [lp_L_ones_4, if_neg h1, s1, nI_1]
    rw [f_onesL kont p (stp x) (c + 1) m s2 (by omega) (by omega), Nat.add_assoc, Nat.add_comm 1 p]
theorem f_ones {x N : Nat} (hx : x < 256) (hN : 3000 ≤ N) : f_L_ones N (nI x) = some (nI (pop x)) := by
  have h1 := pop_le x
  unfold f_L_ones
  simp only [jn]
  rw [i_0, f_onesL (fun x1 => some x1) (pop x) x 0 N hx rfl (by omega), Nat.zero_add]
section SS
variable {L : kS} {a : kA} {N : Nat}
theorem f_shown (hw : WF a) (hb : LB a) (hL : LR L a) {w : Nat} (hwd : w < a 0) (hN : 3000 ≤ N) : f_L_shown N L (nI (a 3)) (nI (a 4)) (nI w) = some (nI (sh a (a 3) (a 4) w)) := by
  have w8 := hb.1
  unfold f_L_shown sh
  rw [f_formOf hw hb hL hwd hN, ob]
  unfold fmI
  simp only [jn]
  by_cases z : fo a w < sF a
  · obtain ⟨u1, u2, u3, -⟩ := ul_ok hb z
    rw [if_pos z, if_pos z]
    rw [if_pos (nI_pos' (by omega)), f_bar hw hb hL u1 u3 hN, ob, u2]
  · rw [if_neg z, if_neg z]
    rw [if_neg (by decide), q_gIn (by omega) (by decide), q_cl (by omega), f_wwid hw hb hL hwd hN, ob]
theorem f_under (hw : WF a) (hb : LB a) (hL : LR L a) {v : Nat} (hv : v < 2147483648) (hN : 3000 ≤ N) : f_L_under N L (nI (a 3)) (nI (a 4)) (nI v) = some (nI (nuM a (a 3) (a 4) v)) := by
  unfold f_L_under nuM
  rw [← nl_12 _ v hb]
  simp only [jn]
  obtain ⟨n, e⟩ := lpF (fun n k (x : Int32) => lp_L_under_6 N L (nI (a 3)) (nI (a 4)) (nI v) (fun x1 => some x1) n x (nI k)) (fun k => nI (nl a (bw a (a 3) (a 4)) v k)) 12 (fun n k hk => by
    have hfv := fv_lt hw hb k
    have h256 := nl_256 (a := a) (b := bw a (a 3) (a 4)) (v := v) (k := k) (by omega)
    have hcmp : (lg_cmp (lN (fv a k)) (lN 0) ≤ (0 : Int32)) = ¬ (vl a k = true) := by
      rw [lg_le0 (by omega) (by decide), ← fv_pos hw k]
      exact propext Nat.not_lt.symm
    show lp_L_under_6 N L (nI (a 3)) (nI (a 4)) (nI v) (fun x1 => some x1) (n + 1) (nI (nl a (bw a (a 3) (a 4)) v k)) (nI k) = lp_L_under_6 N L (nI (a 3)) (nI (a 4)) (nI v) (fun x1 => some x1) n (nI (nl a (bw a (a 3) (a 4)) v (k + 1))) (nI (k + 1))
    rw [lp_L_under_6, show (12 : Int32) = nI 12 by decide, f_form hw hb hL hk hN, ob, lz_0, nl]
    simp only [hcmp, q_le (show 12 < 2147483648 by decide) (show k < 2147483648 by omega), Nat.not_le.mpr hk, ↓reduceIte, jn, nI_1]
    cases z : vl a k with
    | false =>
      simp only [Bool.false_eq_true, not_false_eq_true, ↓reduceIte, false_and]
      rw [i_0, nI_or h256 (by decide), Nat.or_zero]
    | true =>
      have hbw : bw a (a 3) (a 4) (ph a k) ≤ 2147483647 := by
        have hst := hw.2.2.2.2.1
        have h1 := Nat.div_mul_le_self (fw a (ph a k) + a 4 - 1) (a 4)
        have b1 := fw_b hw hb z
        have hall : ∀ g, fw a g ≤ 2147483647 ∨ True := fun _ => Or.inr trivial
        have hs : ∀ i, i < sF a → fw a (srt a i) ≤ 45 := fun i hi => by
          obtain ⟨s1, -⟩ := srt_ok hi
          obtain ⟨u1, u2, -⟩ := ul_ok hb s1
          have := fw_b hw hb u1
          rw [u2] at this
          exact this.2
        have hp := ph_lt z
        unfold bw
        split
        · omega
        · split
          · have : eog a (rk a (ph a k)) < sF a := by
              have hr := rk_lt hp
              have h5 := hw.2.2.2.2.2.1
              unfold eog
              split
              · rename_i h6
                have h7 := Nat.div_mul_le_self (sF a) (a 5)
                have h8 := Nat.mul_le_mul_right (a 5) (show rk a (ph a k) / a 5 + 1 ≤ sF a / a 5 by omega)
                rw [Nat.succ_mul] at h8
                omega
              · omega
            have := hs _ this
            omega
          · split
            · have := hs (sF a - 1) (by omega)
              omega
            · omega
      simp only [not_true_eq_false, ↓reduceIte, true_and]
      rw [f_bar hw hb hL z hk hN, ob]
      simp only [q_eq (show bw a (a 3) (a 4) (ph a k) < 2147483648 by omega) hv]
      by_cases y : bw a (a 3) (a 4) (ph a k) = v
      · simp only [y, ↓reduceIte]
        rw [i_3, q_nz (by decide) (by decide), q_div (by omega) (by decide) (by decide), nI_bit _ (by omega), nI_or h256 (bit_256 (by omega))]
      · simp only [y, ↓reduceIte]
        rw [i_0, nI_or h256 (by decide), Nat.or_zero]) (N := 13) 0 (Nat.zero_le _) (by decide)
  rw [i_0]
  refine e.trans ?_
  show lp_L_under_6 N L (nI (a 3)) (nI (a 4)) (nI v) (fun x1 => some x1) (n + 1) (nI (nl a (bw a (a 3) (a 4)) v 12)) (nI 12) = _
  rw [lp_L_under_6, if_pos (by decide)]
end SS
