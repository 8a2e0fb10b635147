/-! ===== the reference's lines and guesses ===== -/
def isL (a : kA) (m st l w : Nat) : Bool := decide (lno (sh a m st) (a 6) (a 7) w = l)
def lsum (a : kA) (m st l what : Nat) : Nat → Nat
  | 0 => 0
  | w + 1 => if isL a m st l w = true then lsum a m st l what w + (if what = 2 then sh a m st w + (if fst (isL a m st l) w < w then a 6 else 0) else if what = 1 then 1 else if hid a w = true then 1 else 0) else lsum a m st l what w
/-- the least gap of a name under a bar; 1000: none -/
def lg (a : kA) (m st nm v : Nat) : Nat → Nat
  | 0 => 1000
  | f + 1 => if f / (a 2 + 1) = nm ∧ bw a m st f = v then (if lg a m st nm v f ≤ v - fw a f then lg a m st nm v f else v - fw a f) else lg a m st nm v f
def lgA (a : kA) (m st nm v : Nat) : Nat := lg a m st nm v (sF a)
def soon (a : kA) (m st n v o : Nat) : Bool := decide (lgA a m st o v ≠ 1000 ∧ (lgA a m st o v < lgA a m st n v ∨ (lgA a m st o v = lgA a m st n v ∧ o < n)))
def gss (a : kA) (m st v : Nat) (pl : Int32) (n : Nat) : Bool := decide (lgA a m st n v ≠ 1000 ∧ nI (ct (soon a m st n v) (a 1)) = pl)
def lgE (s : Int32) (x : Nat) : Int32 := if x = 1000 then s else nI x
theorem q_m14 {n : Nat} (h : n < 2147483648) : (nI n = (-14 : Int32)) = False := by
  refine propext ⟨fun e => ?_, fun e => e.elim⟩
  have h1 := congrArg Int32.toInt e
  rw [nI_toInt h] at h1
  have h2 : (-14 : Int32).toInt = -14 := by decide
  omega
section MM7
variable {M : kS} {a : kA} {N m st : Nat}
theorem lsum_le (hw : WF a) (hst : 1 ≤ st ∧ st ≤ 50) {l what : Nat} : ∀ w, w ≤ a 0 → lsum a m st l what w ≤ 157 * w
  | 0, _ => Nat.zero_le _
  | w + 1, h => by
    have h1 := lsum_le hw hst (l := l) (what := what) w (by omega)
    have h2 := sh_le hw (m := m) hst (show w < a 0 by omega)
    obtain ⟨w0, w1, w2, w3, w4, w5, w6, w7, wl, wp, wn, we⟩ := id hw
    rw [lsum, Nat.mul_succ]
    repeat' split
    all_goals omega
theorem m_lineSum (h : SM M a) (hw : WF a) (hD : LD M a m st) (hst : 1 ≤ st ∧ st ≤ 50) {l what : Nat} (hl : l ≤ 1000) (hwt : what ≤ 100) (hN : 3000 ≤ N) : f_X9_lineSum N M (nI l) (nI what) = some (if what = 0 then (if fst (isL a m st l) (a 0) < a 0 then nI (fst (isL a m st l) (a 0)) else -14) else nI (lsum a m st l what (a 0))) := by
  obtain ⟨w0, w1, w2, w3, w4, w5, w6, w7, wl, wp, wn, we⟩ := id hw
  unfold f_X9_lineSum
  obtain ⟨n, e⟩ := lpF (fun n i (x : Int32 × Int32) => lp_X9_lineSum_9 N M (nI l) (nI what) (fun (x1 : Int32) (x2 : Int32) => jn (fun (t4 : Int32) => some t4) (fun j122_4 => if nI what = 0 then j122_4 x1 else j122_4 x2)) n x.1 x.2 (nI i)) (fun i => ((if fst (isL a m st l) i < i then nI (fst (isL a m st l) i) else -14), nI (lsum a m st l what i))) (a 0) (fun n w hwd => by
    obtain ⟨d1, d2, d3, d4⟩ := hD.2.2.2.2 w hwd
    have hs := sh_le hw (m := m) hst hwd
    have hfl := fst_le (isL a m st l) w
    have hln : lno (sh a m st) (a 6) (a 7) w ≤ 1000 := by
      have := (ly_b (s := sh a m st) (gp := a 6) (lw := a 7) (n := a 0) (fun v hv => sh_le hw hst hv) (by omega) (by omega) (w + 1) (by omega)).1
      unfold lno
      omega
    show lp_X9_lineSum_9 N M (nI l) (nI what) _ (n + 1) (if fst (isL a m st l) w < w then nI (fst (isL a m st l) w) else -14) (nI (lsum a m st l what w)) (nI w) = lp_X9_lineSum_9 N M (nI l) (nI what) _ n (if fst (isL a m st l) (w + 1) < w + 1 then nI (fst (isL a m st l) (w + 1)) else -14) (nI (lsum a m st l what (w + 1))) (nI (w + 1))
    rw [lp_X9_lineSum_9, lsum, fst]
    simp (disch := omega) only [i_0, q_gIn, q_cl, h _, q_le, ↓reduceIte, Nat.not_le.mpr hwd, ↓jn_eq, d3, q_eq]
    by_cases z : lno (sh a m st) (a 6) (a 7) w = l
    · have z2 : isL a m st l w = true := decide_eq_true z
      by_cases y : fst (isL a m st l) w < w
      · have y2 : fst (isL a m st l) w < w + 1 := by omega
        simp (disch := omega) only [z, z2, ↓reduceIte, y, y2, q_m14, i_1, i_6, nI_add, q_gIn, q_cl, h _]
        by_cases x2 : what = 2
        · simp (disch := omega) only [x2, i_2, q_eq, ↓reduceIte, d2, nI_add, q_gIn, q_cl]
        · simp (disch := omega) only [x2, i_2, q_eq, ↓reduceIte]
          by_cases x1 : what = 1
          · simp (disch := omega) only [x1, q_eq, ↓reduceIte, nI_add]
          · simp (disch := omega) only [x1, q_eq, ↓reduceIte, d1, q_gIn, q_cl]
            cases x : hid a w with
            | true =>
              obtain ⟨x3, x4⟩ := foV_t w x
              have hle := sF_le hw
              simp (disch := omega) only [x3, q_lt, Nat.not_lt_zero, ↓reduceIte, nI_add]
            | false =>
              simp (disch := omega) only [foV_f w x, q_lt1n, ↓reduceIte, nI_add, Bool.false_eq_true]
      · have y2 : fst (isL a m st l) w = w := by omega
        have y3 : w < w + 1 := by omega
        simp (disch := omega) only [z, z2, ↓reduceIte, y, y3, i_1, nI_add, Nat.lt_irrefl]
        by_cases x2 : what = 2
        · simp (disch := omega) only [x2, i_2, q_eq, ↓reduceIte, d2, nI_add, q_gIn, q_cl]
        · simp (disch := omega) only [x2, i_2, q_eq, ↓reduceIte]
          by_cases x1 : what = 1
          · simp (disch := omega) only [x1, q_eq, ↓reduceIte, nI_add]
          · simp (disch := omega) only [x1, q_eq, ↓reduceIte, d1, q_gIn, q_cl]
            cases x : hid a w with
            | true =>
              obtain ⟨x3, x4⟩ := foV_t w x
              have hle := sF_le hw
              simp (disch := omega) only [x3, q_lt, Nat.not_lt_zero, ↓reduceIte, nI_add]
            | false =>
              simp (disch := omega) only [foV_f w x, q_lt1n, ↓reduceIte, nI_add, Bool.false_eq_true]
    · have z2 : isL a m st l w = false := decide_eq_false z
      by_cases y : fst (isL a m st l) w < w
      · have y2 : fst (isL a m st l) w < w + 1 := by omega
        simp (disch := omega) only [z, z2, ↓reduceIte, y, y2, i_1, nI_add, Bool.false_eq_true]
      · simp (disch := omega) only [z, z2, ↓reduceIte, y, i_1, nI_add, Bool.false_eq_true, Nat.lt_irrefl]) (N := N) 0 (Nat.zero_le _) (by omega)
  simp only [↓jn_eq, i_0]
  refine Eq.trans ?_ (e.trans ?_)
  · simp only [Nat.not_lt_zero, ↓reduceIte, lsum, i_0, jn_eq]
  · show lp_X9_lineSum_9 N M (nI l) (nI what) _ (n + 1) (if fst (isL a m st l) (a 0) < a 0 then nI (fst (isL a m st l) (a 0)) else -14) (nI (lsum a m st l what (a 0))) (nI (a 0)) = _
    rw [lp_X9_lineSum_9]
    simp (disch := omega) only [i_0, q_gIn, q_cl, h _, q_le, Nat.le_refl, ↓reduceIte, ↓jn_eq, q_eq]
    by_cases x0 : what = 0
    · simp only [x0, ↓reduceIte]
    · simp only [x0, ↓reduceIte]
end MM7
