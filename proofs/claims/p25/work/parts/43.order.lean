/-! ===== counting and the order of the forms by widths (its first family, to fb_onto, is pasted from kit/laws/COUNTS) ===== -/
theorem fb_holes : ∀ (m n : Nat) (f : Nat → Nat), (∀ i, i < n → f i < m) → (∀ i j, i < j → j < n → f i ≠ f j) → n ≤ m := by
  intro m
  induction m with
  | zero =>
    intro n f h1 _
    rcases Nat.eq_zero_or_pos n with h | h
    · omega
    · exact absurd (h1 0 h) (Nat.not_lt_zero _)
  | succ m ih =>
    intro n f h1 h2
    by_cases hx : ∃ i, i < n ∧ f i = m
    · obtain ⟨a, ha, hfa⟩ := hx
      have hg := ih (n - 1) (fun i => if i < a then f i else f (i + 1)) (by
        intro i hi
        by_cases q : i < a
        · simp only [if_pos q]
          have b1 := h1 i (by omega)
          have b2 := h2 i a q ha
          omega
        · simp only [if_neg q]
          have b1 := h1 (i + 1) (by omega)
          have b2 := h2 a (i + 1) (by omega) (by omega)
          omega) (by
        intro i j hij hj
        by_cases q : i < a
        · by_cases r : j < a
          · simp only [if_pos q, if_pos r]
            exact h2 i j hij (by omega)
          · simp only [if_pos q, if_neg r]
            exact h2 i (j + 1) (by omega) (by omega)
        · have r : ¬ j < a := by omega
          simp only [if_neg q, if_neg r]
          exact h2 (i + 1) (j + 1) (by omega) (by omega))
      omega
    · have hg := ih n f (fun i hi => by
        have b1 := h1 i hi
        have b2 : f i ≠ m := fun e => hx ⟨i, hi, e⟩
        omega) h2
      omega
/-- two of them in one place -/
theorem fb_twice {m n : Nat} {f : Nat → Nat} (h : ∀ i, i < n → f i < m) (hm : m < n) : ∃ i j, i < j ∧ j < n ∧ f i = f j := by
  refine Classical.byContradiction fun hx => ?_
  have := fb_holes m n f h (fun i j hij hj e => hx ⟨i, j, hij, hj, e⟩)
  omega
/-- as many as places, none twice: each place is taken -/
theorem fb_onto {n : Nat} {f : Nat → Nat} (h : ∀ i, i < n → f i < n) (h2 : ∀ i j, i < j → j < n → f i ≠ f j) {y : Nat} (hy : y < n) : ∃ i, i < n ∧ f i = y := by
  refine Classical.byContradiction fun hx => ?_
  have hne : ∀ i, i < n → f i ≠ y := fun i hi e => hx ⟨i, hi, e⟩
  have := fb_holes (n - 1) n (fun i => if f i < y then f i else f i - 1) (by
    intro i hi
    have b1 := h i hi
    have b2 := hne i hi
    by_cases q : f i < y
    · simp only [if_pos q]; omega
    · simp only [if_neg q]; omega) (by
    intro i j hij hj
    have b1 := hne i (by omega)
    have b2 := hne j hj
    have b3 := h2 i j hij hj
    by_cases q : f i < y
    · by_cases r : f j < y
      · simp only [if_pos q, if_pos r]; exact b3
      · simp only [if_pos q, if_neg r]; omega
    · by_cases r : f j < y
      · simp only [if_neg q, if_pos r]; omega
      · simp only [if_neg q, if_neg r]; omega)
  omega
theorem ct_cong {p q : Nat → Bool} : ∀ {n : Nat}, (∀ k, k < n → p k = q k) → ct p n = ct q n
  | 0, _ => rfl
  | n + 1, h => by rw [ct, ct, ct_cong (fun k hk => h k (by omega)), h n (by omega)]
theorem ct_sub {p q : Nat → Bool} : ∀ {n : Nat}, (∀ k, k < n → p k = true → q k = true) → ct p n ≤ ct q n
  | 0, _ => Nat.le_refl 0
  | n + 1, h => by
    have h1 := ct_sub (p := p) (q := q) (n := n) (fun k hk => h k (by omega))
    have h2 := h n (by omega)
    rw [ct, ct]
    cases hp : p n with
    | false => simp; omega
    | true => rw [h2 hp]; simp; omega
theorem ct_lt {p q : Nat → Bool} : ∀ {n : Nat}, (∀ k, k < n → p k = true → q k = true) → ∀ {y : Nat}, y < n → q y = true → p y = false → ct p n < ct q n
  | 0, _, y, hy, _, _ => absurd hy (Nat.not_lt_zero _)
  | n + 1, h, y, hy, hq, hp => by
    rw [ct, ct]
    rcases Nat.lt_or_ge y n with z | z
    · have h1 := ct_lt (p := p) (q := q) (n := n) (fun k hk => h k (by omega)) z hq hp
      have h2 := h n (by omega)
      cases hpn : p n with
      | false => simp; omega
      | true => rw [h2 hpn]; simp; omega
    · have e : y = n := by omega
      subst e
      have h1 := ct_sub (p := p) (q := q) (n := y) (fun k hk => h k (by omega))
      rw [hp, hq]
      simp
      omega
theorem ct_all : ∀ n, ct (fun _ => true) n = n
  | 0 => rfl
  | n + 1 => by rw [ct, ct_all n]; rfl
theorem ct_upd {p : Nat → Bool} {x : Nat} : ∀ {n : Nat}, x < n → p x = false → ct (fun g => decide (x = g) || p g) n = ct p n + 1
  | 0, h, _ => absurd h (Nat.not_lt_zero _)
  | n + 1, h, hp => by
    rw [ct, ct]
    rcases Nat.lt_or_ge x n with z | z
    · have h1 := ct_upd (p := p) z hp
      have h2 : ¬ x = n := by omega
      rw [h1]
      simp [h2]
      omega
    · have e : x = n := by omega
      subst e
      have h1 : ct (fun g => decide (x = g) || p g) x = ct p x := ct_cong (fun k hk => by
        have h2 : ¬ x = k := by omega
        simp [h2])
      rw [h1, hp]
      simp
def anyS (S : Nat → Nat) (g : Nat) : Nat → Bool
  | 0 => false
  | k + 1 => decide (S k = g) || anyS S g k
theorem anyS_iff (S : Nat → Nat) (g : Nat) : ∀ k, anyS S g k = true ↔ ∃ i, i < k ∧ S i = g
  | 0 => ⟨fun h => (by cases h), fun ⟨i, h, _⟩ => absurd h (Nat.not_lt_zero _)⟩
  | k + 1 => by
    rw [anyS, Bool.or_eq_true, anyS_iff S g k]
    refine ⟨fun h => ?_, fun ⟨i, h, e⟩ => ?_⟩
    · rcases h with h | ⟨i, h, e⟩
      · exact ⟨k, by omega, of_decide_eq_true h⟩
      · exact ⟨i, by omega, e⟩
    · rcases Nat.lt_or_ge i k with z | z
      · exact Or.inr ⟨i, z, e⟩
      · have e2 : i = k := by omega
        subst e2
        exact Or.inl (decide_eq_true e)
theorem ct_img {S : Nat → Nat} {n : Nat} : ∀ (k : Nat), (∀ i, i < k → S i < n) → (∀ i j, i < j → j < k → S i ≠ S j) → ct (fun g => anyS S g k) n = k
  | 0, _, _ => by
    have h : ct (fun g => anyS S g 0) n = ct (fun _ => false) n := ct_cong (fun _ _ => rfl)
    rw [h]
    have h2 : ∀ m, ct (fun _ => false) m = 0 := fun m => by
      induction m with
      | zero => rfl
      | succ m ih => rw [ct, ih]; rfl
    exact h2 n
  | k + 1, h1, h2 => by
    have ih := ct_img (S := S) (n := n) k (fun i hi => h1 i (by omega)) (fun i j hij hj => h2 i j hij (by omega))
    have h3 : anyS S (S k) k = false := by
      cases hc : anyS S (S k) k with
      | false => rfl
      | true =>
        obtain ⟨i, hi, e⟩ := (anyS_iff S (S k) k).mp hc
        exact absurd e (h2 i k hi (by omega))
    have h4 := ct_upd (p := fun g => anyS S g k) (h1 k (by omega)) h3
    rw [ih] at h4
    exact h4
def lf (a : kA) (x y : Nat) : Prop := fw a x < fw a y ∨ (fw a x = fw a y ∧ x < y)
theorem ahd_iff (a : kA) (f g : Nat) : ahd a f g = true ↔ lf a g f := by
  unfold ahd lf
  exact decide_eq_true_iff
theorem lf_tri {a : kA} {x y : Nat} (h : x ≠ y) : lf a x y ∨ lf a y x := by unfold lf; omega
theorem lf_tr {a : kA} {x y z : Nat} (h : lf a x y) (h2 : lf a y z) : lf a x z := by unfold lf at *; omega
theorem lf_ir {a : kA} {x : Nat} (h : lf a x x) : False := by unfold lf at h; omega
theorem rk_mono {a : kA} {x y : Nat} (hx : x < sF a) (h : lf a x y) : rk a x < rk a y :=
  ct_lt (fun k _ hk => (ahd_iff a y k).mpr (lf_tr ((ahd_iff a x k).mp hk) h)) hx ((ahd_iff a y x).mpr h) (by
    cases hc : ahd a x x with
    | false => rfl
    | true => exact absurd ((ahd_iff a x x).mp hc) (fun z => lf_ir z))
theorem rk_inj {a : kA} {x y : Nat} (hx : x < sF a) (hy : y < sF a) (h : rk a x = rk a y) : x = y := by
  rcases Nat.decEq x y with z | z
  · rcases lf_tri (a := a) z with q | q
    · have h1 := rk_mono hx q
      omega
    · have h1 := rk_mono hy q
      omega
  · exact z
theorem rk_lt {a : kA} {x : Nat} (hx : x < sF a) : rk a x < sF a := by
  have h := ct_lt (p := ahd a x) (q := fun _ => true) (n := sF a) (fun _ _ _ => rfl) hx rfl (by
    cases hc : ahd a x x with
    | false => rfl
    | true => exact absurd ((ahd_iff a x x).mp hc) (fun z => lf_ir z))
  rw [ct_all] at h
  exact h
theorem rk_onto {a : kA} {r : Nat} (hr : r < sF a) : ∃ f, f < sF a ∧ rk a f = r := fb_onto (f := rk a) (fun _ hi => rk_lt hi) (fun i j hij hj e => by
  have h := rk_inj (a := a) (by omega) hj e
  omega) hr
theorem srt_uniq {a : kA} {f r : Nat} (hf : f < sF a) (h : rk a f = r) : srt a r = f := fst_uniq hf (decide_eq_true h) (fun j hj => by
  cases hc : decide (rk a j = r) with
  | false => rfl
  | true =>
    have h1 := rk_inj (a := a) (x := j) (by omega) hf ((of_decide_eq_true hc).trans h.symm)
    omega)
theorem srt_ok {a : kA} {r : Nat} (hr : r < sF a) : srt a r < sF a ∧ rk a (srt a r) = r := by
  obtain ⟨f, h1, h2⟩ := rk_onto hr
  rw [srt_uniq h1 h2]
  exact ⟨h1, h2⟩
/-- a row of the first n forms, by widths -/
def Srt (a : kA) (S : Nat → Nat) (n : Nat) : Prop := (∀ k, k < n → S k < n) ∧ ∀ i j, i < j → j < n → lf a (S i) (S j)
theorem Srt.ne {a : kA} {S : Nat → Nat} {n : Nat} (h : Srt a S n) : ∀ i j, i < j → j < n → S i ≠ S j := fun i j hij hj e => by
  have h1 := h.2 i j hij hj
  rw [e] at h1
  exact lf_ir h1
theorem Srt.rk {a : kA} {S : Nat → Nat} (h : Srt a S (sF a)) {k : Nat} (hk : k < sF a) : rk a (S k) = k := by
  have h1 := ct_img (S := S) (n := sF a) k (fun i hi => h.1 i (by omega)) (fun i j hij hj => h.ne i j hij (by omega))
  refine Eq.trans (ct_cong (fun g hg => ?_)) h1
  obtain ⟨i, hi, e⟩ := fb_onto (f := S) h.1 h.ne hg
  subst e
  rw [Bool.eq_iff_iff, ahd_iff, anyS_iff]
  refine ⟨fun hl => ?_, fun ⟨j, hj, e⟩ => ?_⟩
  · rcases Nat.lt_trichotomy i k with z | z | z
    · exact ⟨i, z, rfl⟩
    · subst z
      exact (lf_ir hl).elim
    · exact (lf_ir (lf_tr hl (h.2 k i z hi))).elim
  · rw [← e]
    exact h.2 j k hj hk
theorem Srt.srt {a : kA} {S : Nat → Nat} (h : Srt a S (sF a)) {k : Nat} (hk : k < sF a) : srt a k = S k := srt_uniq (h.1 k hk) (h.rk hk)
/-- .. with one more, put in at k -/
theorem Srt.ins {a : kA} {S S' : Nat → Nat} {n k : Nat} (h : Srt a S n) (hk : k ≤ n) (h1 : ∀ i, i < k → S' i = S i) (h2 : S' k = n) (h3 : ∀ i, k < i → i ≤ n → S' i = S (i - 1)) (hlo : k = 0 ∨ fw a (S (k - 1)) ≤ fw a n) (hhi : ∀ i, k ≤ i → i < n → fw a n < fw a (S i)) : Srt a S' (n + 1) := by
  have lo : ∀ i, i < k → lf a (S i) n := fun i hi => by
    have b1 := h.1 i (by omega)
    rcases hlo with z | z
    · omega
    · rcases Nat.lt_or_ge i (k - 1) with q | q
      · have b2 := h.2 i (k - 1) q (by omega)
        unfold lf at *
        omega
      · have e : i = k - 1 := by omega
        subst e
        unfold lf
        omega
  have hi' : ∀ i, k ≤ i → i < n → lf a n (S i) := fun i z q => Or.inl (hhi i z q)
  refine ⟨fun i hi => ?_, fun i j hij hj => ?_⟩
  · rcases Nat.lt_trichotomy i k with z | z | z
    · rw [h1 i z]
      have b1 := h.1 i (by omega)
      omega
    · subst z
      rw [h2]
      omega
    · rw [h3 i z (by omega)]
      have b1 := h.1 (i - 1) (by omega)
      omega
  · rcases Nat.lt_trichotomy i k with z | z | z
    · rw [h1 i z]
      rcases Nat.lt_trichotomy j k with y | y | y
      · rw [h1 j y]
        exact h.2 i j hij (by omega)
      · subst y
        rw [h2]
        exact lo i z
      · rw [h3 j y (by omega)]
        rcases Nat.lt_or_ge i (j - 1) with q | q
        · exact h.2 i (j - 1) q (by omega)
        · omega
    · subst z
      rw [h2, h3 j hij (by omega)]
      exact hi' (j - 1) (by omega) (by omega)
    · rw [h3 i z (by omega), h3 j (by omega) (by omega)]
      exact h.2 (i - 1) (j - 1) (by omega) (by omega)
