/-! ===== the start: the new object, the law's own arrays ===== -/
def FWt : Nat → Int32 := fun j => ([4, 4, 4, 4, 4, 3, 4, 4, 2, 2, 4, 2, 6, 4, 4, 4, 4, 3, 4, 3, 4, 4, 6, 4, 4, 4] : List Int32).getD j 0
def FVt : Nat → Int32 := fun j => ([0, 10, 3, 3, 80] : List Int32).getD j 0
def z0 : Nat → Int32 := fun _ => 0
def zW (a b : Nat) : Nat → Int32 := fun j => if j = 0 then nI a else if j = 1 then nI b else 0
def zH : Nat → Int32 := fun j => nI (26 + 20 * j)
def zF : Nat → Int32 := fun j => if j = 3 then 1 else 0
def zS : List (Nat → Int32) := [z0, zW 40 12, z0, z0, z0, z0, zW 8 8, z0, z0, z0, z0, zW 4 3, z0, z0, z0, z0, z0, FWt, z0, FVt]
def C0L : List (Nat → Int32) := [z0, z0, z0, z0, z0, zW 40 12, z0, z0, z0, z0, zW 8 8, z0, z0, z0, z0, zW 4 3, z0, z0, z0, z0, z0, FWt, z0, FVt, z0, zH, z0, zW 40 12, z0, z0, z0, z0, zW 8 8, z0, z0, z0, z0, zW 4 3, z0, z0, z0, z0, z0, FWt, z0, FVt, z0, zW 40 12, z0, z0, z0, z0, zW 8 8, z0, z0, z0, z0, zW 4 3, z0, z0, z0, z0, z0, FWt, z0, FVt, z0, zW 40 12, z0, z0, z0, z0, zW 8 8, z0, z0, z0, z0, zW 4 3, z0, z0, z0, z0, z0, FWt, z0, FVt, z0, zW 40 12, z0, z0, z0, z0, zW 8 8, z0, z0, z0, z0, zW 4 3, z0, z0, z0, z0, z0, FWt, z0, FVt, zF]
def C0 : kS := fun k => C0L.getD k z0
def a0 : kA := fun i => if i = 4 then 10 else if i = 5 then 3 else if i = 6 then 3 else if i = 7 then 80 else if i < 8 then 0 else if i < 34 then (FWt (i - 8)).toNatClampNeg else 0
def M0 : kS := fun k => if k = 1 then (fun i => nI (a0 i)) else z0
theorem a0_W : ∀ k, k < 26 → 1 ≤ a0 (8 + k) ∧ a0 (8 + k) ≤ 9 := by decide +kernel
theorem a0_s : ∀ j, j < 5 → C0 23 j = nI (a0 (3 + j)) := by decide +kernel
theorem a0_l : ∀ j, j < 26 → C0 21 j = nI (a0 (8 + j)) := by decide +kernel
theorem a0_0 : a0 0 = 0 := by decide
theorem a0_1 : a0 1 = 0 := by decide
theorem a0_2 : a0 2 = 0 := by decide
theorem a0_f : sF a0 = 0 := by decide
theorem h0_p : ∀ i, i < 4 → C0 25 i = nI (26 + 20 * i) ∧ (C0 (26 + 20 * i + 1) 0 = nI 40 ∧ C0 (26 + 20 * i + 1) 1 = nI 12) ∧ (C0 (26 + 20 * i + 6) 0 = nI 8 ∧ C0 (26 + 20 * i + 6) 1 = nI 8) ∧ C0 (26 + 20 * i + 11) 0 = nI 4 ∧ C0 (26 + 20 * i + 11) 1 = nI 3 := by decide +kernel
theorem RA0 : RA C0 M0 a0 0 (fun _ => 0) := by
  refine ⟨0, fun i => 26 + 20 * i, fun _ => a0, ⟨?_, fun i _ => rfl, ?_, ?_, ?_, ?_, ?_⟩, ?_, ?_⟩
  · refine ⟨by decide, by decide, by decide, by decide, by decide, by decide, by decide, by decide, a0_W, fun w hw => ?_, fun w hw => ?_, fun w hw => ?_⟩
    · rw [a0_0] at hw; exact absurd hw (Nat.not_lt_zero _)
    · rw [a0_1] at hw; exact absurd hw (Nat.not_lt_zero _)
    · rw [a0_2] at hw; exact absurd hw (Nat.not_lt_zero _)
  · refine ⟨⟨by decide +kernel, by decide +kernel, by decide +kernel, fun w hw => ?_⟩, ⟨by decide +kernel, by decide +kernel, by decide +kernel, fun w hw => ?_⟩, ⟨by decide +kernel, by decide +kernel, by decide +kernel, fun w hw => ?_⟩, a0_l, a0_s⟩
    · rw [a0_0] at hw; exact absurd hw (Nat.not_lt_zero _)
    · rw [a0_1] at hw; exact absurd hw (Nat.not_lt_zero _)
    · rw [a0_2] at hw; exact absurd hw (Nat.not_lt_zero _)
  · refine ⟨by decide +kernel, by decide +kernel, fun f hf => ?_, fun f hf => ?_, fun f hf => ?_⟩ <;> (rw [a0_f] at hf; exact absurd hf (Nat.not_lt_zero _))
  · intro f hf
    rw [a0_f] at hf; exact absurd hf (Nat.not_lt_zero _)
  · intro w hw
    rw [a0_0] at hw; exact absurd hw (Nat.not_lt_zero _)
  · refine ⟨?_, fun w hw => ?_, fun l hl => ?_⟩
    · rw [a0_0]; decide +kernel
    · rw [a0_0] at hw; exact absurd hw (Nat.not_lt_zero _)
    · rw [a0_0] at hl; exact absurd hl (Nat.not_lt_zero _)
  · refine ⟨by decide, by decide +kernel, by decide +kernel, fun i hi => ?_, fun i j _ _ e => (by have e : 26 + 20 * i = 26 + 20 * j := e; omega), fun j hj => absurd hj (Nat.not_lt_zero _)⟩
    obtain ⟨h1, h2, h3, h4⟩ := h0_p i hi
    refine ⟨h1, ?_, ?_, h2, h3, h4⟩
    · show 26 + 20 * i = 4 ∨ 26 + 20 * i = 26 ∨ 26 + 20 * i = 46 ∨ 26 + 20 * i = 66 ∨ 26 + 20 * i = 86
      omega
    · show 26 + 20 * i ≠ 4
      omega
  · exact ⟨by decide, by decide +kernel, by decide +kernel, fun i hi => absurd hi (Nat.not_lt_zero _)⟩
theorem i_17 : (17 : Int32) = nI 17 := by decide
theorem i_19 : (19 : Int32) = nI 19 := by decide
theorem i_22 : (22 : Int32) = nI 22 := by decide
theorem fwt_if : ∀ i, i < 26 → FWt i = (if i = 8 then 2 else if i = 9 then 2 else if i = 11 then 2 else if i = 5 then 3 else if i = 17 then 3 else if i = 19 then 3 else if i = 12 then 6 else if i = 22 then 6 else 4) := by decide +kernel
theorem fwt_a : ∀ k, k < 26 → FWt k = nI (a0 (8 + k)) := by decide +kernel
def L0 : kS := fun _ => z0
theorem f_begins0 {N : Nat} (hN : 3000 ≤ N) : ∃ L1, f_L_begins N L0 = some L1 ∧ LR L1 a0 := by
  have c : ∀ k, k < 8 → (nI k).toNatClampNeg = k := fun k hk => q_cl (by omega)
  have g8 : ∀ k, k < 8 → ∀ x : Option kS, gIn (nI k) 8 x = x := fun k hk x => q_gIn hk (by decide)
  unfold f_L_begins
  simp only [i_1, i_2, i_3, i_4, c 1 (by decide), c 2 (by decide), c 3 (by decide), c 4 (by decide), g8 1 (by decide), g8 2 (by decide), g8 3 (by decide), g8 4 (by decide), jn_eq]
  obtain ⟨L', n, ⟨h1, h2⟩, e⟩ := lpN (fun n i (C : kS) => lp_L_begins_20 N (fun (C9 : kS) => some C9) n (nI i) C) (fun i C => (∀ j, C 0 j = if j = 1 then 10 else if j = 2 then nI 3 else if j = 3 then nI 3 else if j = 4 then 80 else 0) ∧ ∀ k, k < i → C 1 k = FWt k) 26 (fun n i C hi hI => by
    obtain ⟨h1, h2⟩ := hI
    refine ⟨up1 C 1 (upd (C 1) i (FWt i)), ⟨fun j => by rw [up1_n (by decide)]; exact h1 j, fun k hk => ?_⟩, ?_⟩
    · rw [up1_s]
      by_cases y : k = i
      · rw [y, pk_us]
      · rw [pk_un y]
        exact h2 k (by omega)
    · show lp_L_begins_20 N (fun (C9 : kS) => some C9) (n + 1) (nI i) C = lp_L_begins_20 N (fun (C9 : kS) => some C9) n (nI (i + 1)) _
      rw [lp_L_begins_20, if_neg (fun q => by have := (nI_leI (show 26 < 2147483648 by decide) (by omega)).mp q; omega)]
      refine (jp1 (x := FWt i) (fun j => ?_)).trans ?_
      · have q : ∀ m, m < 26 → (nI i = nI m) = (i = m) := fun m hm => q_eq (by omega) (by omega)
        rw [fwt_if i hi]
        simp only [jn_eq, i_8, i_9, i_11, i_5, i_17, i_19, i_12, i_22, q 8 (by decide), q 9 (by decide), q 11 (by decide), q 5 (by decide), q 17 (by decide), q 19 (by decide), q 12 (by decide), q 22 (by decide), apply_ite j]
      · rw [q_gIn hi (by decide), jn_eq, q_cl (by omega), i_1, nI_add]) (N := N) 0 (up1 (up1 (up1 (up1 L0 0 (upd (L0 0) 1 10)) 0 (upd ((up1 L0 0 (upd (L0 0) 1 10)) 0) 2 (nI 3))) 0 (upd ((up1 (up1 L0 0 (upd (L0 0) 1 10)) 0 (upd ((up1 L0 0 (upd (L0 0) 1 10)) 0) 2 (nI 3))) 0) 3 (nI 3))) 0 (upd ((up1 (up1 (up1 L0 0 (upd (L0 0) 1 10)) 0 (upd ((up1 L0 0 (upd (L0 0) 1 10)) 0) 2 (nI 3))) 0 (upd ((up1 (up1 L0 0 (upd (L0 0) 1 10)) 0 (upd ((up1 L0 0 (upd (L0 0) 1 10)) 0) 2 (nI 3))) 0) 3 (nI 3))) 0) 4 80)) (Nat.zero_le _) (by omega) ⟨fun j => by
      simp only [up1_s, upd, L0, z0]
      by_cases y4 : j = 4
      · subst y4; rfl
      by_cases y3 : j = 3
      · subst y3; rfl
      by_cases y2 : j = 2
      · subst y2; rfl
      by_cases y1 : j = 1
      · subst y1; rfl
      simp only [y1, y2, y3, y4, ↓reduceIte], fun k hk => absurd hk (Nat.not_lt_zero k)⟩
  refine ⟨L', e.trans ?_, LR.mk (fun i hi => ?_) ?_ ?_ ?_ (fun k hk => ?_) (fun w hw => ?_) (fun w hw => ?_) (fun w hw => ?_)⟩
  · show lp_L_begins_20 N (fun (C9 : kS) => some C9) (n + 1) (nI 26) L' = some L'
    rw [lp_L_begins_20, if_pos (show (26 : Int32) ≤ nI 26 by decide)]
  · rw [h1]
    obtain rfl | rfl | rfl | rfl | rfl : i = 0 ∨ i = 1 ∨ i = 2 ∨ i = 3 ∨ i = 4 := by omega
    all_goals decide +kernel
  · rw [h1]; decide +kernel
  · rw [h1]; decide +kernel
  · rw [h1]; decide +kernel
  · rw [h2 k hk, fwt_a k hk]
  · rw [a0_0] at hw; exact absurd hw (Nat.not_lt_zero _)
  · rw [a0_1] at hw; exact absurd hw (Nat.not_lt_zero _)
  · rw [a0_2] at hw; exact absurd hw (Nat.not_lt_zero _)
theorem LB0 : LB a0 := ⟨by rw [a0_0]; decide, by rw [a0_1]; decide, by rw [a0_2]; decide, fun w hw => by rw [a0_0] at hw; exact absurd hw (Nat.not_lt_zero _), fun w hw => by rw [a0_1] at hw; exact absurd hw (Nat.not_lt_zero _), fun w hw => by rw [a0_2] at hw; exact absurd hw (Nat.not_lt_zero _)⟩
theorem RW_start {N : Nat} (hN : 3000 ≤ N) : ∃ L1, f_L_begins N L0 = some L1 ∧ RW C0 L1 := by
  obtain ⟨L1, e, h⟩ := f_begins0 (N := N) hN
  exact ⟨L1, e, M0, a0, 0, _, RA0, LB0, h⟩
