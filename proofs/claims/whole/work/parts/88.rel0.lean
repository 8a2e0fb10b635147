/-! ===== the first state ===== -/
def z0 : Nat → Int32 := fun _ => 0
def zW (a b : Nat) : Nat → Int32 := fun j => if j = 0 then nI a else if j = 1 then nI b else 0
def zH : Nat → Int32 := fun j => nI (26 + 20 * j)
def zF : Nat → Int32 := fun j => if j = 3 then 1 else 0
def zS : List (Nat → Int32) := [z0, zW 40 12, z0, z0, z0, z0, zW 8 8, z0, z0, z0, z0, zW 4 3, z0, z0, z0, z0, z0, FWt, z0, FVt]
def C0L : List (Nat → Int32) := [z0, z0, z0, z0, z0, zW 40 12, z0, z0, z0, z0, zW 8 8, z0, z0, z0, z0, zW 4 3, z0, z0, z0, z0, z0, FWt, z0, FVt, z0, zH, z0, zW 40 12, z0, z0, z0, z0, zW 8 8, z0, z0, z0, z0, zW 4 3, z0, z0, z0, z0, z0, FWt, z0, FVt, z0, zW 40 12, z0, z0, z0, z0, zW 8 8, z0, z0, z0, z0, zW 4 3, z0, z0, z0, z0, z0, FWt, z0, FVt, z0, zW 40 12, z0, z0, z0, z0, zW 8 8, z0, z0, z0, z0, zW 4 3, z0, z0, z0, z0, z0, FWt, z0, FVt, z0, zW 40 12, z0, z0, z0, z0, zW 8 8, z0, z0, z0, z0, zW 4 3, z0, z0, z0, z0, z0, FWt, z0, FVt, zF]
def C0 : kS := fun k => C0L.getD k z0
def M0 : kS := mk9 26
def a0 : kA := fun i => if i = 4 then 10 else if i = 5 then 3 else if i = 6 then 3 else if i = 7 then 80 else if i < 8 then 0 else if i < 34 then (FWt (i - 8)).toNatClampNeg else 0
theorem a0_M : ∀ i, i < 642 → M0 1 i = nI (a0 i) := by decide +kernel
theorem a0_W : ∀ k, k < 26 → 1 ≤ a0 (8 + k) ∧ a0 (8 + k) ≤ 9 := by decide +kernel
theorem a0_s : ∀ j, j < 5 → C0 23 j = nI (a0 (3 + j)) := by decide +kernel
theorem a0_l : ∀ j, j < 26 → C0 21 j = nI (a0 (8 + j)) := by decide +kernel
theorem a0_0 : a0 0 = 0 := by decide
theorem a0_1 : a0 1 = 0 := by decide
theorem a0_2 : a0 2 = 0 := by decide
theorem a0_f : sF a0 = 0 := by decide
theorem h0_p : ∀ i, i < 4 → C0 25 i = nI (26 + 20 * i) ∧ (C0 (26 + 20 * i + 1) 0 = nI 40 ∧ C0 (26 + 20 * i + 1) 1 = nI 12) ∧ (C0 (26 + 20 * i + 6) 0 = nI 8 ∧ C0 (26 + 20 * i + 6) 1 = nI 8) ∧ C0 (26 + 20 * i + 11) 0 = nI 4 ∧ C0 (26 + 20 * i + 11) 1 = nI 3 := by decide +kernel
theorem Rl0 : Rl C0 M0 := by
  refine ⟨a0, 0, fun i => 26 + 20 * i, fun _ => a0, 0, fun _ => 0, ⟨?_, a0_M, ?_, ?_, ?_, ?_, ?_⟩, ?_, ?_⟩
  · refine ⟨by decide, by decide, by decide, by decide, by decide, by decide, by decide, by decide, a0_W, fun w hw => ?_, fun w hw => ?_, fun w hw => ?_⟩
    · rw [a0_0] at hw; exact absurd hw (Nat.not_lt_zero _)
    · rw [a0_1] at hw; exact absurd hw (Nat.not_lt_zero _)
    · rw [a0_2] at hw; exact absurd hw (Nat.not_lt_zero _)
  · refine ⟨⟨by decide +kernel, by decide +kernel, by decide +kernel, fun w hw => ?_⟩, ⟨by decide +kernel, by decide +kernel, by decide +kernel, fun w hw => ?_⟩, ⟨by decide +kernel, by decide +kernel, by decide +kernel, fun w hw => ?_⟩, a0_l, a0_s⟩
    · rw [a0_0] at hw; exact absurd hw (Nat.not_lt_zero _)
    · rw [a0_1] at hw; exact absurd hw (Nat.not_lt_zero _)
    · rw [a0_2] at hw; exact absurd hw (Nat.not_lt_zero _)
  · refine ⟨by decide +kernel, by decide +kernel, fun f hf => ?_, fun f hf => ?_, fun f hf => ?_⟩ <;> (rw [a0_f] at hf; exact absurd hf (Nat.not_lt_zero _))
  · intro f hf
    rw [a0_f] at hf; exact absurd hf (Nat.not_lt_zero _)
  · intro w hw
    rw [a0_0] at hw; exact absurd hw (Nat.not_lt_zero _)
  · refine ⟨?_, fun w hw => ?_, fun l hl => ?_⟩
    · rw [a0_0]; decide +kernel
    · rw [a0_0] at hw; exact absurd hw (Nat.not_lt_zero _)
    · rw [a0_0] at hl; exact absurd hl (Nat.not_lt_zero _)
  · refine ⟨by decide, by decide +kernel, by decide +kernel, fun i hi => ?_, fun i j _ _ e => (by have e : 26 + 20 * i = 26 + 20 * j := e; omega), fun j hj => absurd hj (Nat.not_lt_zero _)⟩
    obtain ⟨h1, h2, h3, h4⟩ := h0_p i hi
    refine ⟨h1, ?_, ?_, h2, h3, h4⟩
    · show 26 + 20 * i = 4 ∨ 26 + 20 * i = 26 ∨ 26 + 20 * i = 46 ∨ 26 + 20 * i = 66 ∨ 26 + 20 * i = 86
      omega
    · show 26 + 20 * i ≠ 4
      omega
  · exact ⟨by decide, by decide +kernel, by decide +kernel, fun i hi => absurd hi (Nat.not_lt_zero _)⟩
theorem arrV_lt {cA : ClassId} {N : Nat} {f f' : Nat → Value} (h : ∀ j, j < N → f j = f' j) : arrV cA N f = arrV cA N f' := by
  unfold arrV
  have e : (fun j : Fin N => f j.val) = (fun j : Fin N => f' j.val) := funext (fun j => h j.val j.isLt)
  rw [e]
section RW0
variable {cI cS : ClassId} {ad : Nat → Nat}
def hE (cS : ClassId) (ad : Nat → Nat) : va_E := .inl (cS, 4, .inr (.inr (.inr (.inr (hRefs (ad 26) (ad 46) (ad 66) (ad 86))))))
set_option maxRecDepth 100000 in
set_option maxHeartbeats 4000000 in
theorem bb_eq : wBB cI cS ad = (WC cI cS ad C0).set 25 (ad 25, hE cS ad) := rfl
theorem bb_at {k : Nat} (hk : k < 132) : ∃ e, (wBB cI cS ad)[k]? = some (ad k, e) := by
  rw [bb_eq, List.getElem?_set]
  by_cases h : 25 = k
  · subst h
    rw [if_pos rfl, if_pos (by unfold WC; simp)]
    exact ⟨_, rfl⟩
  · rw [if_neg h, WC_at hk]
    exact ⟨_, rfl⟩
theorem bb_len : (wBB cI cS ad).length = 132 := by
  rw [bb_eq, List.length_set]
  unfold WC
  simp
theorem bb_P {D : va_G} {H : Heap} (h : va_P D vwCl (wBB cI cS ad) H) : va_P D vwCl (WC cI cS ad C0) H := by
  intro k q hq
  by_cases hk : k = 25
  · subst hk
    have h1 := h 25 (ad 25, hE cS ad) (by rw [bb_eq, List.getElem?_set, if_pos rfl, if_pos (by unfold WC; simp)])
    rw [wcR kd_25] at hq
    cases hq
    show H[ad 25]? = some (vp_cell _ _)
    have h2 : H[ad 25]? = some (vp_cell cS (4, .inr (.inr (.inr (.inr (hRefs (ad 26) (ad 46) (ad 66) (ad 86))))))) := h1
    rw [h2]
    congr 1
  · refine h k q ?_
    rw [bb_eq, List.getElem?_set, if_neg (fun e => hk e.symm)]
    exact hq
end RW0
