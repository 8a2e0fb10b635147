/-! ===== the law's cells and the abstract state ===== -/
def lc (a : kA) (p : Nat) : Nat → Nat := fun i => a (p + 1 + i)
def lx (a : kA) : Nat → Nat := fun k => a (8 + k)
def LB (a : kA) : Prop := a 0 ≤ 8 ∧ a 1 ≤ 4 ∧ a 2 ≤ 2 ∧ (∀ w, w < a 0 → a (34 + 13 * w) ≤ 5) ∧ (∀ n, n < a 1 → a (554 + 9 * n) ≤ 3) ∧ ∀ e, e < a 2 → a (626 + 4 * e) ≤ 2
def LR (L : kS) (a : kA) : Prop := ((L 0 0 = nI (a 3) ∧ L 0 1 = nI (a 4) ∧ L 0 2 = nI (a 5) ∧ L 0 3 = nI (a 6) ∧ L 0 4 = nI (a 7)) ∧ L 0 5 = nI (a 0) ∧ L 0 6 = nI (a 1) ∧ L 0 7 = nI (a 2)) ∧ (∀ k, k < 26 → L 1 k = nI (a (8 + k))) ∧ (∀ w, w < a 0 → L 2 w = nI (enc (lc a (34 + 13 * w)) (a (34 + 13 * w)))) ∧ (∀ n, n < a 1 → L 2 (8 + n) = nI (enc (lc a (554 + 9 * n)) (a (554 + 9 * n)))) ∧ ∀ e, e < a 2 → L 2 (12 + e) = nI (enc (lc a (626 + 4 * e)) (a (626 + 4 * e)))
theorem sW_wS (a : kA) (p : Nat) : ∀ i, sW a p i = wS (lx a) (lc a p) i
  | 0 => rfl
  | i + 1 => by rw [sW, wS, sW_wS a p i]; rfl
theorem LR.cg {L L' : kS} {a : kA} (h : LR L a) (h0 : L' 0 = L 0) (h1 : L' 1 = L 1) (h2 : L' 2 = L 2) : LR L' a := by
  unfold LR
  rw [h0, h1, h2]
  exact h
/-- a form's number, as the law counts (three places a name), is there -/
def vl (a : kA) (f : Nat) : Bool := decide (f / 3 < a 1 ∧ f % 3 ≤ a 2)
/-- .. and its number without the empty places -/
def ph (a : kA) (f : Nat) : Nat := f / 3 * (a 2 + 1) + f % 3
def fv (a : kA) (f : Nat) : Nat := if vl a f = true then enc (fc a (ph a f)) (fl a (ph a f)) else 0
theorem ph_div {a : kA} {f : Nat} (h : vl a f = true) : ph a f / (a 2 + 1) = f / 3 ∧ ph a f % (a 2 + 1) = f % 3 := by
  have h1 := of_decide_eq_true h
  unfold ph
  rw [Nat.mul_comm (f / 3), Nat.mul_add_div (Nat.succ_pos _), Nat.mul_add_mod, Nat.div_eq_of_lt (show f % 3 < a 2 + 1 by omega), Nat.mod_eq_of_lt (show f % 3 < a 2 + 1 by omega)]
  exact ⟨Nat.add_zero _, rfl⟩
theorem ph_lt {a : kA} {f : Nat} (h : vl a f = true) : ph a f < sF a := by
  have h1 := of_decide_eq_true h
  have h2 := ph_div h
  unfold sF
  exact (Nat.div_lt_iff_lt_mul (Nat.succ_pos _)).mp (by rw [h2.1]; exact h1.1)
section FF
variable {L : kS} {a : kA} {N : Nat}
theorem nm_ok (hw : WF a) {n : Nat} (h : n < a 1) : ∀ i, i < a (554 + 9 * n) → lc a (554 + 9 * n) i < 26 := fun i hi => (hw.2.2.2.2.2.2.2.2.2.2.1 n h).2 i hi
theorem ed_ok (hw : WF a) {e : Nat} (h : e < a 2) : ∀ i, i < a (626 + 4 * e) → lc a (626 + 4 * e) i < 26 := fun i hi => (hw.2.2.2.2.2.2.2.2.2.2.2 e h).2 i hi
theorem pg_ok (hw : WF a) {w : Nat} (h : w < a 0) : ∀ i, i < a (34 + 13 * w) → lc a (34 + 13 * w) i < 26 := fun i hi => (hw.2.2.2.2.2.2.2.2.2.1 w h).2 i hi
/-- a form's letters -/
theorem fc_eq {f : Nat} (h : vl a f = true) : fl a (ph a f) = a (554 + 9 * (f / 3)) + (if f % 3 = 0 then 0 else a (626 + 4 * (f % 3 - 1))) ∧ fc a (ph a f) = fun k => if k < a (554 + 9 * (f / 3)) then lc a (554 + 9 * (f / 3)) k else lc a (626 + 4 * (f % 3 - 1)) (k - a (554 + 9 * (f / 3))) := by
  obtain ⟨h1, h2⟩ := ph_div h
  refine ⟨?_, ?_⟩
  · unfold fl fnA feA
    rw [h1, h2]
  · funext k
    unfold fc fnA feA
    rw [h1, h2]
    rfl
theorem fc_ok (hw : WF a) {f : Nat} (h : vl a f = true) : ∀ i, i < fl a (ph a f) → fc a (ph a f) i < 26 := by
  obtain ⟨h1, h2⟩ := fc_eq h
  have h3 := of_decide_eq_true h
  intro i hi
  rw [h1] at hi
  rw [h2]
  show (if i < a (554 + 9 * (f / 3)) then lc a (554 + 9 * (f / 3)) i else lc a (626 + 4 * (f % 3 - 1)) (i - a (554 + 9 * (f / 3)))) < 26
  by_cases z : i < a (554 + 9 * (f / 3))
  · rw [if_pos z]
    exact nm_ok hw h3.1 i z
  · rw [if_neg z]
    by_cases y : f % 3 = 0
    · rw [if_pos y] at hi
      omega
    · rw [if_neg y] at hi
      exact ed_ok hw (e := f % 3 - 1) (by omega) _ (by omega)
theorem fl_le (hb : LB a) {f : Nat} (h : vl a f = true) : fl a (ph a f) ≤ 5 := by
  have h3 := of_decide_eq_true h
  have h4 := hb.2.2.2.2.1 (f / 3) h3.1
  rw [(fc_eq h).1]
  by_cases y : f % 3 = 0
  · rw [if_pos y]
    omega
  · rw [if_neg y]
    have := hb.2.2.2.2.2 (f % 3 - 1) (by omega)
    omega
theorem fl_pos (hw : WF a) {f : Nat} (h : vl a f = true) : 0 < fl a (ph a f) := by
  have h3 := of_decide_eq_true h
  have h4 := (hw.2.2.2.2.2.2.2.2.2.2.1 (f / 3) h3.1).1
  rw [(fc_eq h).1]
  omega
theorem fv_lt (hw : WF a) (hb : LB a) (f : Nat) : fv a f < 33554432 := by
  unfold fv
  cases z : vl a f with
  | true =>
    rw [if_pos rfl]
    exact enc_small (fc_ok hw z) (fl_le hb z)
  | false =>
    rw [if_neg (by decide)]
    decide
theorem fv_pos (hw : WF a) (f : Nat) : (0 < fv a f) = (vl a f = true) := by
  unfold fv
  cases z : vl a f with
  | true => simp only [↓reduceIte, eq_iff_iff, iff_true]; exact enc_pos (fl_pos hw z)
  | false => simp
theorem f_form (hw : WF a) (hb : LB a) (hL : LR L a) {f : Nat} (hf : f < 12) (hN : 3000 ≤ N) : f_L_form N L (nI f) = some (lN (fv a f)) := by
  obtain ⟨⟨-, l5, l6, l7⟩, lx1, lw, ln1, le1⟩ := hL
  have b1 := hb.2.1
  have b2 := hb.2.2.1
  unfold f_L_form fv vl
  rw [i_3, q_nz (by decide) (by decide), q_nz (by decide) (by decide), q_rem (by omega) (by decide) (by decide), q_div (by omega) (by decide) (by decide), i_6, i_7, q_gIn (by decide) (by decide), q_gIn (by decide) (by decide), q_cl (by decide), q_cl (by decide), l6, l7]
  simp only [q_le (show a 1 < 2147483648 by omega) (show f / 3 < 2147483648 by omega)]
  by_cases z : f / 3 < a 1
  · have hn := ln1 _ z
    have hnm := nm_ok hw z
    have hnl := hb.2.2.2.2.1 _ z
    rw [if_neg (by omega), i_8, nI_add, q_gIn (by omega) (by decide), q_nz (by decide) (by decide), q_cl (by omega), hn, nI_l (Nat.lt_trans (enc_small hnm (by omega)) (by decide))]
    have hr : f % 3 = 0 ∨ f % 3 = 1 ∨ f % 3 = 2 := by omega
    by_cases y : f % 3 = 0
    · have hv : (decide (f / 3 < a 1 ∧ f % 3 ≤ a 2)) = true := decide_eq_true ⟨z, by omega⟩
      have hc := fc_eq (a := a) (f := f) hv
      have m1 : (nI 0 - (1 : Int32) < nI (a 2)) = True := by
        rcases (show a 2 = 0 ∨ a 2 = 1 ∨ a 2 = 2 by omega) with e | e | e <;> rw [e] <;> decide
      have m2 : ((0 : Int32) ≤ nI 0 - 1) = False := by decide
      rw [hv, y]
      simp only [m1, m2, ↓reduceIte, jn]
      rw [hc.1, hc.2, y, if_pos rfl, Nat.add_zero]
      exact congrArg (fun v => some (lN v)) (enc_congr (fun i hi => (if_pos hi).symm))
    · rw [i_1, q_sub (by omega)]
      simp only [q_lt (show f % 3 - 1 < 2147483648 by omega) (show a 2 < 2147483648 by omega)]
      by_cases x : f % 3 ≤ a 2
      · have hv : (decide (f / 3 < a 1 ∧ f % 3 ≤ a 2)) = true := decide_eq_true ⟨z, x⟩
        have hc := fc_eq (a := a) (f := f) hv
        have he := le1 (f % 3 - 1) (by omega)
        have hem := ed_ok hw (e := f % 3 - 1) (by omega)
        have hel := hb.2.2.2.2.2 (f % 3 - 1) (by omega)
        have hs := Nat.lt_trans (enc_small hem (by omega)) (show 33554432 < 2 ^ 31 by decide)
        have hi : ((0 : Int32) ≤ nI (f % 3 - 1)) = True := q_nn (by omega)
        rw [hv, if_pos (by omega)]
        simp only [hi, ↓reduceIte, jn]
        rw [show (12 : Int32) = nI 12 by decide, nI_add, q_gIn (by omega) (by decide), q_cl (by omega), he, nI_l hs, f_lenE hem (by omega) hN, ob, q_gIn (by omega) (by decide), i_5, pk_mul, lz_shl _ (by omega), p32, lz_or]
        rw [hc.1, hc.2, if_neg y, enc_app]
        have h2 := enc_lt hem
        rw [Nat.mul_comm, ← p32 (a (626 + 4 * (f % 3 - 1))), ← Nat.two_pow_add_eq_or_of_lt (by rw [p32]; exact h2)]
      · have hv : (decide (f / 3 < a 1 ∧ f % 3 ≤ a 2)) = false := decide_eq_false (fun q => x q.2)
        rw [hv, if_neg (by omega), if_neg (by decide), lz_0]
  · have hv : (decide (f / 3 < a 1 ∧ f % 3 ≤ a 2)) = false := decide_eq_false (fun q => z q.1)
    rw [hv, if_pos (by omega), if_neg (by decide), lz_0]
end FF
