/-! ===== the reference's bars ===== -/
def upd2 (S : Nat → Nat) (k f : Nat) : Nat → Nat := fun i => if i < k then S i else if i = k then f else S (i - 1)
def AgM (M M' : kS) : Prop := M' 1 = M 1 ∧ M' 2 = M 2 ∧ M' 3 = M 3 ∧ M' 0 2 = M 0 2 ∧ M' 0 4 = M 0 4 ∧ M' 0 5 = M 0 5
theorem AgM.rf {M : kS} : AgM M M := ⟨rfl, rfl, rfl, rfl, rfl, rfl⟩
theorem AgM.tr {M M' M'' : kS} (h : AgM M M') (h2 : AgM M' M'') : AgM M M'' := ⟨h2.1.trans h.1, h2.2.1.trans h.2.1, h2.2.2.1.trans h.2.2.1, h2.2.2.2.1.trans h.2.2.2.1, h2.2.2.2.2.1.trans h.2.2.2.2.1, h2.2.2.2.2.2.trans h.2.2.2.2.2⟩
theorem AgM.sm {M M' : kS} {a : kA} (h : AgM M M') (hs : SM M a) : SM M' a := fun i hi => by rw [h.1]; exact hs i hi
theorem q_pos {n : Nat} (h : 0 < n) (h2 : n < 2147483648) : (nI n ≤ nI 0) = False := by
  rw [q_le h2 (by omega)]
  simp
  omega
theorem q_m (n : Nat) : nI (n + 1) + -nI 1 = nI n := pk_m1 n
section MM3
variable {M : kS} {a : kA} {N : Nat}
theorem fw_le (hw : WF a) {f : Nat} (hf : f < sF a) : fw a f ≤ 99 := by
  obtain ⟨w0, w1, w2, w3, w4, w5, w6, w7, wl, wp, wn, we⟩ := hw
  have hq := fq hf
  have hr := fr (a := a) f
  have b1 := (wn _ hq).1.2
  have b2 : wd a (fnA a f) ≤ 9 * a (fnA a f) := wd_le wl (wn _ hq).2
  have b3 : a (fnA a f) ≤ 8 := b1
  unfold fw
  by_cases z : f % (a 2 + 1) = 0
  · rw [if_pos z]; omega
  · rw [if_neg z]
    have c1 := we (f % (a 2 + 1) - 1) (by omega)
    have c2 : wd a (feA a f) ≤ 9 * a (feA a f) := wd_le wl c1.2
    have c3 : a (feA a f) ≤ 3 := c1.1.2
    omega
theorem m_sorts_in {M0 : kS} {S : Nat → Nat} {f : Nat} (hf : f < 40) (hS : ∀ i, i < f → S i < f) (h4 : ∀ i, i ≤ f → M0 4 i = nI (fw a i)) (hw : ∀ i, i ≤ f → fw a i ≤ 1000) (kont : Int32 → kS → Option kS) : ∀ (k n : Nat) (C : kS), k < n → k ≤ f → (∀ j, j ≠ 6 → C j = M0 j) → (∀ i, i < k → C 6 i = nI (S i)) → (∀ i, k < i → i ≤ f → C 6 i = nI (S (i - 1))) → (∀ i, k ≤ i → i < f → fw a f < fw a (S i)) → ∃ k' C', k' ≤ f ∧ (∀ j, j ≠ 6 → C' j = M0 j) ∧ (∀ i, i < k' → C' 6 i = nI (S i)) ∧ (∀ i, k' < i → i ≤ f → C' 6 i = nI (S (i - 1))) ∧ (∀ i, k' ≤ i → i < f → fw a f < fw a (S i)) ∧ (k' = 0 ∨ fw a (S (k' - 1)) ≤ fw a f) ∧ lp_X9_sorts_12 N (nI f) kont n (nI k) C = kont (nI k') C' := by
  intro k
  induction k with
  | zero =>
    intro n C hn hk hC h1 h2 h3
    obtain ⟨n, rfl⟩ : ∃ n', n = n' + 1 := ⟨n - 1, by omega⟩
    refine ⟨0, C, Nat.zero_le _, hC, h1, h2, h3, Or.inl rfl, ?_⟩
    rw [lp_X9_sorts_12]
    simp (disch := omega) only [i_0, q_le, Nat.le_refl, if_true]
  | succ k ih =>
    intro n C hn hk hC h1 h2 h3
    obtain ⟨n, rfl⟩ : ∃ n', n = n' + 1 := ⟨n - 1, by omega⟩
    rw [lp_X9_sorts_12]
    have s1 := hS k (by omega)
    have e6 := h1 k (by omega)
    have e4 : C 4 = M0 4 := hC 4 (by decide)
    have w1 := hw (S k) (by omega)
    have w2 := hw f (Nat.le_refl _)
    simp (disch := omega) only [i_0, i_1, q_sub, Nat.add_sub_cancel, q_gIn, q_cl, e6, e4, h4 (S k), h4 f, q_le, jn, q_m, if_neg]
    by_cases z : fw a (S k) ≤ fw a f
    · rw [if_pos z]
      exact ⟨k + 1, C, hk, hC, h1, h2, h3, Or.inr z, rfl⟩
    · rw [if_neg z]
      refine ih n (up1 C 6 (upd (C 6) (k + 1) (nI (S k)))) (by omega) (by omega) (fun j hj => ?_) (fun i hi => ?_) (fun i hi hi2 => ?_) (fun i hi hi2 => ?_)
      · rw [up1_n hj]
        exact hC j hj
      · rw [up1_s, pk_un (by omega)]
        exact h1 i (by omega)
      · rw [up1_s]
        by_cases y : i = k + 1
        · subst y
          rw [pk_us]
          rfl
        · rw [pk_un y]
          exact h2 i (by omega) hi2
      · by_cases y : i = k
        · subst y
          omega
        · exact h3 i (by omega) hi2
theorem m_sorts (hF : M 0 9 = nI (sF a)) (hle : sF a ≤ 40) (h4 : ∀ f, f < sF a → M 4 f = nI (fw a f)) (hw : ∀ f, f < sF a → fw a f ≤ 1000) (hN : 3000 ≤ N) : ∃ M', f_X9_sorts N M = some M' ∧ (∀ j, j ≠ 6 → M' j = M j) ∧ ∃ S, Srt a S (sF a) ∧ ∀ i, i < sF a → M' 6 i = nI (S i) := by
  unfold f_X9_sorts
  obtain ⟨C, n, ⟨hC, S, hS, h6⟩, e⟩ := lpN (fun n i (x : kS) => lp_X9_sorts_2 N (fun C1 => some C1) n (nI i) x) (fun f C => (∀ j, j ≠ 6 → C j = M j) ∧ ∃ S, Srt a S f ∧ ∀ i, i < f → C 6 i = nI (S i)) (sF a) (fun n f C hf hI => by
    obtain ⟨hC, S, hS, h6⟩ := hI
    have e0 : C 0 = M 0 := hC 0 (by decide)
    obtain ⟨k, C', hk, hC', a1, a2, a3, a4, e⟩ := m_sorts_in (N := N) (a := a) (M0 := M) (S := S) (f := f) (by omega) hS.1 (fun i hi => h4 i (by omega)) (fun i hi => hw i (by omega)) (fun (x6 : Int32) (C7 : kS) => gIn x6 40 (jn (up1 C7 6 (upd (C7 6) (x6.toNatClampNeg) (nI f))) (fun C10 : kS => lp_X9_sorts_2 N (fun C1 => some C1) n (nI f + 1) C10))) f N C (by omega) (Nat.le_refl _) hC h6 (fun i hi hi2 => by omega) (fun i hi hi2 => by omega)
    refine ⟨up1 C' 6 (upd (C' 6) k (nI f)), ⟨fun j hj => by rw [up1_n hj]; exact hC' j hj, upd2 S k f, ?_, ?_⟩, ?_⟩
    · refine hS.ins hk (fun i hi => ?_) ?_ (fun i hi hi2 => ?_) a4 a3
      · unfold upd2
        rw [if_pos hi]
      · unfold upd2
        rw [if_neg (by omega), if_pos rfl]
      · unfold upd2
        rw [if_neg (by omega), if_neg (by omega)]
    · intro i hi
      rw [up1_s]
      unfold upd2
      rcases Nat.lt_trichotomy i k with z | z | z
      · rw [pk_un (by omega), if_pos z]
        exact a1 i z
      · subst z
        rw [pk_us, if_neg (by omega), if_pos rfl]
      · rw [pk_un (by omega), if_neg (by omega), if_neg (by omega)]
        exact a2 i z (by omega)
    · show lp_X9_sorts_2 N (fun C1 => some C1) (n + 1) (nI f) C = lp_X9_sorts_2 N (fun C1 => some C1) n (nI (f + 1)) (up1 C' 6 (upd (C' 6) k (nI f)))
      rw [lp_X9_sorts_2]
      have hne : ¬ sF a ≤ f := by omega
      simp (disch := omega) only [e0, hF, q_le, hne, if_false]
      rw [jn, e]
      simp (disch := omega) only [q_gIn, q_cl, jn, i_1, nI_add]) (N := N) 0 M (Nat.zero_le _) (by omega) ⟨fun j _ => rfl, fun _ => 0, ⟨fun k hk => absurd hk (Nat.not_lt_zero k), fun i j hij hj => absurd hj (Nat.not_lt_zero j)⟩, fun i hi => absurd hi (Nat.not_lt_zero i)⟩
  refine ⟨C, ?_, hC, S, hS, h6⟩
  simp only [jn, i_0]
  refine e.trans ?_
  show lp_X9_sorts_2 N (fun C1 => some C1) (n + 1) (nI (sF a)) C = some C
  rw [lp_X9_sorts_2]
  have e0 : C 0 = M 0 := hC 0 (by decide)
  simp (disch := omega) only [e0, hF, q_le, Nat.le_refl, if_true]
theorem m_endOfGroup (h : SM M a) (hw : WF a) (hF : M 0 9 = nI (sF a)) {r : Nat} (hr : r < sF a) : f_X9_endOfGroup N M (nI r) = some (nI (eog a r)) := by
  obtain ⟨w0, w1, w2, w3, w4, w5, w6, w7, wl, wp, wn, we⟩ := id hw
  have hle := sF_le hw
  have d1 := Nat.div_le_self (sF a) (a 5)
  have d2 := Nat.div_le_self r (a 5)
  have d3 := Nat.div_mul_le_self r (a 5)
  unfold f_X9_endOfGroup
  simp (disch := omega) only [i_5, i_1, i_0, q_gIn, q_cl, h _, q_nz, jn, hF, q_div, q_eq, pk_mul, nI_add, q_sub]
  unfold eog
  generalize sF a / a 5 = G at *
  generalize r / a 5 = q at *
  by_cases z : G = 0
  · have z2 : ¬ q + 1 < G := by omega
    simp only [z, if_true]
    rw [if_neg (by omega)]
  · simp (disch := omega) only [z, if_false, q_sub, q_lt]
    by_cases y : q + 1 < G
    · have y2 : q < G - 1 := by omega
      rw [if_pos y, if_pos y2]
    · have y2 : ¬ q < G - 1 := by omega
      rw [if_neg y, if_neg y2]
end MM3
