/-! ===== what a state means: 642 numbers, as the reference lays them ===== -/
abbrev kA : Type := Nat → Nat
def WL (a : kA) (base wide most n : Nat) : Prop := ∀ w, w < n → (1 ≤ a (base + wide * w) ∧ a (base + wide * w) ≤ most) ∧ ∀ i, i < a (base + wide * w) → a (base + wide * w + 1 + i) < 26
def WF (a : kA) : Prop := a 0 ≤ 40 ∧ a 1 ≤ 8 ∧ a 2 ≤ 4 ∧ a 3 ≤ 3 ∧ (1 ≤ a 4 ∧ a 4 ≤ 50) ∧ (1 ≤ a 5 ∧ a 5 ≤ 8) ∧ (1 ≤ a 6 ∧ a 6 ≤ 9) ∧ (20 ≤ a 7 ∧ a 7 ≤ 200) ∧ (∀ k, k < 26 → 1 ≤ a (8 + k) ∧ a (8 + k) ≤ 9) ∧ WL a 34 13 12 (a 0) ∧ WL a 554 9 8 (a 1) ∧ WL a 626 4 3 (a 2)
/-- width of the letters at a place -/
def sW (a : kA) (p : Nat) : Nat → Nat
  | 0 => 0
  | i + 1 => sW a p i + a (8 + a (p + 1 + i))
def wd (a : kA) (p : Nat) : Nat := sW a p (a p)
def sF (a : kA) : Nat := a 1 * (a 2 + 1)
def fnA (a : kA) (f : Nat) : Nat := 554 + 9 * (f / (a 2 + 1))
def feA (a : kA) (f : Nat) : Nat := 626 + 4 * (f % (a 2 + 1) - 1)
def fw (a : kA) (f : Nat) : Nat := wd a (fnA a f) + (if f % (a 2 + 1) = 0 then 0 else wd a (feA a f))
def fl (a : kA) (f : Nat) : Nat := a (fnA a f) + (if f % (a 2 + 1) = 0 then 0 else a (feA a f))
def fc (a : kA) (f k : Nat) : Nat := if k < a (fnA a f) then a (fnA a f + 1 + k) else a (feA a f + 1 + (k - a (fnA a f)))
def allB (p : Nat → Bool) : Nat → Bool
  | 0 => true
  | n + 1 => allB p n && p n
theorem allB_iff (p : Nat → Bool) : ∀ n, allB p n = true ↔ ∀ k, k < n → p k = true
  | 0 => ⟨fun _ k hk => absurd hk (Nat.not_lt_zero k), fun _ => rfl⟩
  | n + 1 => by
    rw [allB, Bool.and_eq_true, allB_iff p n]
    refine ⟨fun h k hk => ?_, fun h => ⟨fun k hk => h k (by omega), h n (by omega)⟩⟩
    rcases Nat.lt_or_ge k n with q | q
    · exact h.1 k q
    · have e : k = n := by omega
      rw [e]
      exact h.2
def isF (a : kA) (w f : Nat) : Bool := decide (a (34 + 13 * w) = fl a f) && allB (fun k => decide (a (34 + 13 * w + 1 + k) = fc a f k)) (a (34 + 13 * w))
/-- the first number below n with a property, n if there is none -/
def fst (p : Nat → Bool) : Nat → Nat
  | 0 => 0
  | n + 1 => if fst p n < n then fst p n else if p n then n else n + 1
theorem fst_le (p : Nat → Bool) : ∀ n, fst p n ≤ n
  | 0 => Nat.le_refl 0
  | n + 1 => by
    have ih := fst_le p n
    rw [fst]
    split
    · omega
    · split <;> omega
theorem fst_no (p : Nat → Bool) : ∀ n k, k < fst p n → p k = false
  | 0, k, h => absurd h (Nat.not_lt_zero k)
  | n + 1, k, h => by
    have ih := fst_no p n k
    have le := fst_le p n
    rw [fst] at h
    split at h
    · exact ih h
    · rename_i h1
      split at h
      · exact ih (by omega)
      · rename_i h2
        rcases Nat.lt_or_ge k n with q | q
        · exact ih (by omega)
        · have e : k = n := by omega
          rw [e]
          simpa using h2
theorem fst_yes (p : Nat → Bool) : ∀ n, fst p n < n → p (fst p n) = true
  | 0, h => absurd h (Nat.not_lt_zero _)
  | n + 1, h => by
    have ih := fst_yes p n
    rw [fst] at h ⊢
    split
    · rename_i h1
      exact ih h1
    · rename_i h1
      rw [if_neg h1] at h
      split
      · rename_i h2
        exact h2
      · rename_i h2
        rw [if_neg h2] at h
        omega
theorem fst_uniq {p : Nat → Bool} {n k : Nat} (hk : k < n) (hp : p k = true) (hno : ∀ j, j < k → p j = false) : fst p n = k := by
  rcases Nat.lt_trichotomy (fst p n) k with h | h | h
  · have h1 := fst_yes p n (by omega)
    rw [hno _ h] at h1
    cases h1
  · exact h
  · have h1 := fst_no p n k h
    rw [hp] at h1
    cases h1
theorem fst_none {p : Nat → Bool} {n : Nat} (hno : ∀ j, j < n → p j = false) : fst p n = n := by
  rcases Nat.lt_or_ge (fst p n) n with h | h
  · have h1 := fst_yes p n h
    rw [hno _ h] at h1
    cases h1
  · have h1 := fst_le p n
    omega
/-- the form that hides a word (the number of forms, if there is none) -/
def fo (a : kA) (w : Nat) : Nat := fst (isF a w) (sF a)
def ct (p : Nat → Bool) : Nat → Nat
  | 0 => 0
  | n + 1 => ct p n + (if p n then 1 else 0)
theorem ct_le (p : Nat → Bool) : ∀ n, ct p n ≤ n
  | 0 => Nat.le_refl 0
  | n + 1 => by
    have ih := ct_le p n
    rw [ct]
    split <;> omega
/-- g stands ahead of f by widths -/
def ahd (a : kA) (f g : Nat) : Bool := decide (fw a g < fw a f ∨ (fw a g = fw a f ∧ g < f))
def rk (a : kA) (f : Nat) : Nat := ct (ahd a f) (sF a)
def srt (a : kA) (k : Nat) : Nat := fst (fun g => decide (rk a g = k)) (sF a)
def eog (a : kA) (r : Nat) : Nat := if r / a 5 + 1 < sF a / a 5 then r / a 5 * a 5 + a 5 - 1 else sF a - 1
/-- the width of a form's bar, by mode and step -/
def bw (a : kA) (m st f : Nat) : Nat := if m = 1 then (fw a f + st - 1) / st * st else if m = 2 then fw a (srt a (eog a (rk a f))) else if m = 3 then fw a (srt a (sF a - 1)) else fw a f
def sh (a : kA) (m st w : Nat) : Nat := if fo a w < sF a then bw a m st (fo a w) else wd a (34 + 13 * w)
/-- lines and the place behind, ahead of word w -/
def ly (s : Nat → Nat) (gp lw : Nat) : Nat → Nat × Nat
  | 0 => (0, 0)
  | w + 1 => if w = 0 ∨ lw < (ly s gp lw w).2 + s w then ((ly s gp lw w).1 + 1, s w + gp) else ((ly s gp lw w).1, (ly s gp lw w).2 + (s w + gp))
def plc (s : Nat → Nat) (gp lw w : Nat) : Nat := if w = 0 ∨ lw < (ly s gp lw w).2 + s w then 0 else (ly s gp lw w).2
def lno (s : Nat → Nat) (gp lw w : Nat) : Nat := (ly s gp lw (w + 1)).1 - 1
/-- the names that may be under a bar, as a mask -/
def nu (b : Nat → Nat) (e v : Nat) : Nat → Nat
  | 0 => 0
  | f + 1 => if b f = v then nu b e v f ||| 2 ^ (f / e) else nu b e v f
def pop (x : Nat) : Nat := x / 1 % 2 + x / 2 % 2 + x / 4 % 2 + x / 8 % 2 + x / 16 % 2 + x / 32 % 2 + x / 64 % 2 + x / 128 % 2
