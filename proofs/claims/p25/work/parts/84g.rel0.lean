/-! ===== the new object's cells ===== -/
theorem arrV_lt {cA : ClassId} {N : Nat} {f f' : Nat → Value} (h : ∀ j, j < N → f j = f' j) : arrV cA N f = arrV cA N f' := by
  unfold arrV
  have e : (fun j : Fin N => f j.val) = (fun j : Fin N => f' j.val) := funext (fun j => h j.val j.isLt)
  rw [e]
section RW0
variable {cI cS : ClassId} {ad : Nat → Nat}
def hE (cS : ClassId) (ad : Nat → Nat) : va_E := .inl (cS, 4, .inr (.inr (.inr (.inr (hRefs (ad 26) (ad 46) (ad 66) (ad 86))))))
set_option maxRecDepth 100000 in
set_option maxHeartbeats 4000000 in
theorem bb_eq : wBB cI cS ad = (WC cI cS ad C0).set 25 (ad 25, hE cS ad) := rfl
theorem bb_at {k : Nat} (hk : k < 132) : ∃ e, (wBB cI cS ad)[k]? = some (ad k, e) := by
  rw [bb_eq, List.getElem?_set]
  by_cases h : 25 = k
  · subst h
    rw [if_pos rfl, if_pos (by unfold WC; simp)]
    exact ⟨_, rfl⟩
  · rw [if_neg h, WC_at hk]
    exact ⟨_, rfl⟩
theorem bb_len : (wBB cI cS ad).length = 132 := by
  rw [bb_eq, List.length_set]
  unfold WC
  simp
theorem bb_P {D : va_G} {H : Heap} (h : va_P D vwCl (wBB cI cS ad) H) : va_P D vwCl (WC cI cS ad C0) H := by
  intro k q hq
  by_cases hk : k = 25
  · subst hk
    have h1 := h 25 (ad 25, hE cS ad) (by rw [bb_eq, List.getElem?_set, if_pos rfl, if_pos (by unfold WC; simp)])
    rw [wcR kd_25] at hq
    cases hq
    show H[ad 25]? = some (vp_cell _ _)
    have h2 : H[ad 25]? = some (vp_cell cS (4, .inr (.inr (.inr (.inr (hRefs (ad 26) (ad 46) (ad 66) (ad 86))))))) := h1
    rw [h2]
    congr 1
  · refine h k q ?_
    rw [bb_eq, List.getElem?_set, if_neg (fun e => hk e.symm)]
    exact hq
end RW0
