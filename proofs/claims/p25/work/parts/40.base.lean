/-! ===== pure side: numbers ===== -/
theorem i_0 : (0 : Int32) = nI 0 := by decide
theorem i_1 : (1 : Int32) = nI 1 := by decide
theorem i_2 : (2 : Int32) = nI 2 := by decide
theorem i_3 : (3 : Int32) = nI 3 := by decide
theorem i_4 : (4 : Int32) = nI 4 := by decide
theorem i_5 : (5 : Int32) = nI 5 := by decide
theorem i_6 : (6 : Int32) = nI 6 := by decide
theorem i_7 : (7 : Int32) = nI 7 := by decide
theorem i_8 : (8 : Int32) = nI 8 := by decide
theorem i_9 : (9 : Int32) = nI 9 := by decide
theorem i_10 : (10 : Int32) = nI 10 := by decide
theorem i_11 : (11 : Int32) = nI 11 := by decide
theorem i_12 : (12 : Int32) = nI 12 := by decide
theorem i_13 : (13 : Int32) = nI 13 := by decide
theorem i_14 : (14 : Int32) = nI 14 := by decide
theorem i_15 : (15 : Int32) = nI 15 := by decide
theorem i_16 : (16 : Int32) = nI 16 := by decide
theorem i_20 : (20 : Int32) = nI 20 := by decide
theorem i_26 : (26 : Int32) = nI 26 := by decide
theorem i_32 : (32 : Int32) = nI 32 := by decide
theorem i_34 : (34 : Int32) = nI 34 := by decide
theorem i_40 : (40 : Int32) = nI 40 := by decide
theorem i_50 : (50 : Int32) = nI 50 := by decide
theorem i_97 : (97 : Int32) = nI 97 := by decide
theorem i_122 : (122 : Int32) = nI 122 := by decide
theorem i_126 : (126 : Int32) = nI 126 := by decide
theorem i_200 : (200 : Int32) = nI 200 := by decide
theorem i_500 : (500 : Int32) = nI 500 := by decide
theorem i_554 : (554 : Int32) = nI 554 := by decide
theorem i_626 : (626 : Int32) = nI 626 := by decide
theorem i_642 : (642 : Int32) = nI 642 := by decide
theorem i_1926 : (1926 : Int32) = nI 1926 := by decide
theorem q_gIn {α : Type} {i n : Nat} {x : Option α} (h : i < n) (hn : n ≤ 100000) : gIn (nI i) n x = x := gIn_t (vp_in_nI h (by omega))
theorem q_cl {n : Nat} (h : n < 2147483648) : (nI n).toNatClampNeg = n := nI_clamp h
theorem q_lt {a b : Nat} (ha : a < 2147483648) (hb : b < 2147483648) : (nI a < nI b) = (a < b) := propext (nI_ltI ha hb)
theorem q_le {a b : Nat} (ha : a < 2147483648) (hb : b < 2147483648) : (nI a ≤ nI b) = (a ≤ b) := propext (nI_leI ha hb)
theorem q_eq {a b : Nat} (ha : a < 2147483648) (hb : b < 2147483648) : (nI a = nI b) = (a = b) := propext (nI_eq ha hb)
theorem q_sub {a b : Nat} (h : b ≤ a) : nI a - nI b = nI (a - b) := pk_sub h
theorem q_div {a d : Nat} (ha : a < 2147483648) (h0 : 0 < d) (hd : d < 2147483648) : nI a / nI d = nI (a / d) := pk_div ha h0 hd
theorem q_rem {a d : Nat} (ha : a < 2147483648) (h0 : 0 < d) (hd : d < 2147483648) : nI a - nI a / nI d * nI d = nI (a % d) := pk_rem ha h0 hd
theorem q_nz {α : Type} {d : Nat} {x : Option α} (h0 : 0 < d) (hd : d < 2147483648) : gNz (nI d) x = x := gNz_t (nI_ne0 h0 hd)
theorem q_and1 : (nI 1) &&& (nI 1) = nI 1 := by decide
theorem q_and0 : (nI 0) &&& (nI 1) = nI 0 := by decide
theorem q_m1 {n : Nat} (h : n < 2147483648) : (nI n = (-1 : Int32)) = False := by
  refine propext ⟨fun e => ?_, fun e => e.elim⟩
  have h1 := congrArg Int32.toInt e
  rw [nI_toInt h] at h1
  have h2 : (-1 : Int32).toInt = -1 := by decide
  omega
theorem q_neg {n : Nat} (h : n < 2147483648) : (nI n < (0 : Int32)) = False := propext ⟨fun e => nI_pos h e, fun e => e.elim⟩
theorem q_nn {n : Nat} (h : n < 2147483648) : ((0 : Int32) ≤ nI n) = True := propext ⟨fun _ => trivial, fun _ => nI_pos' h⟩
theorem ob {α β : Type} {a : α} {f : α → Option β} : (some a).bind f = f a := rfl
/-- a loop whose counter runs to m -/
theorem lpW {α β : Type} (L : Nat → Nat → α → β) (I : Nat → α → Prop) (m : Nat) (hs : ∀ n i x, i < m → I i x → ∃ x', I (i + 1) x' ∧ L (n + 1) i x = L n (i + 1) x') : ∀ (d i : Nat) (x : α) (n : Nat), i + d = m → I i x → ∃ x', I m x' ∧ L (n + d) i x = L n m x'
  | 0, i, x, n, hi, h => by
    have e : i = m := by omega
    subst e
    exact ⟨x, h, rfl⟩
  | d + 1, i, x, n, hi, h => by
    obtain ⟨x1, h1, e1⟩ := hs (n + d) i x (by omega) h
    obtain ⟨x2, h2, e2⟩ := lpW L I m hs d (i + 1) x1 n (by omega) h1
    exact ⟨x2, h2, e1.trans e2⟩
theorem lpN {α β : Type} (L : Nat → Nat → α → β) (I : Nat → α → Prop) (m : Nat) (hs : ∀ n i x, i < m → I i x → ∃ x', I (i + 1) x' ∧ L (n + 1) i x = L n (i + 1) x') {N : Nat} (i : Nat) (x : α) (hi : i ≤ m) (hN : m < N) (h : I i x) : ∃ x' n, I m x' ∧ L N i x = L (n + 1) m x' := by
  obtain ⟨x', h1, h2⟩ := lpW L I m hs (m - i) i x (N - (m - i)) (by omega) h
  refine ⟨x', N - (m - i) - 1, h1, ?_⟩
  have e1 : N - (m - i) + (m - i) = N := by omega
  have e2 : N - (m - i) - 1 + 1 = N - (m - i) := by omega
  rw [e1] at h2
  rw [e2]
  exact h2
/-- .. with a function of the counter for the state -/
theorem lpF {α β : Type} (L : Nat → Nat → α → β) (F : Nat → α) (m : Nat) (hs : ∀ n i, i < m → L (n + 1) i (F i) = L n (i + 1) (F (i + 1))) {N : Nat} (i : Nat) (hi : i ≤ m) (hN : m < N) : ∃ n, L N i (F i) = L (n + 1) m (F m) := by
  obtain ⟨x', n, h1, h2⟩ := lpN L (fun i x => x = F i) m (fun n i x h hx => ⟨F (i + 1), rfl, by rw [hx]; exact hs n i h⟩) i (F i) hi hN rfl
  exact ⟨n, by rw [h2, h1]⟩
