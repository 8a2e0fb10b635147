/-! ===== the two worlds: the class (132 cells) and the reference (11 cells) ===== -/
def kdL : List Nat := [8, 6, 3, 10, 5, 7, 3, 10, 3, 10, 7, 3, 10, 3, 10, 7, 3, 10, 3, 10, 3, 10, 3, 10, 2, 11, 5, 7, 3, 10, 3, 10, 7, 3, 10, 3, 10, 7, 3, 10, 3, 10, 3, 10, 3, 10, 5, 7, 3, 10, 3, 10, 7, 3, 10, 3, 10, 7, 3, 10, 3, 10, 3, 10, 3, 10, 5, 7, 3, 10, 3, 10, 7, 3, 10, 3, 10, 7, 3, 10, 3, 10, 3, 10, 3, 10, 5, 7, 3, 10, 3, 10, 7, 3, 10, 3, 10, 7, 3, 10, 3, 10, 3, 10, 3, 10, 1, 3, 10, 3, 10, 3, 10, 0, 3, 10, 0, 3, 10, 4, 3, 10, 3, 10, 3, 10, 3, 10, 3, 10, 3, 10]
def lnL : List Nat := [0, 0, 0, 200, 0, 0, 0, 480, 0, 40, 0, 0, 64, 0, 8, 0, 0, 12, 0, 4, 0, 26, 0, 5, 0, 4, 0, 0, 0, 480, 0, 40, 0, 0, 64, 0, 8, 0, 0, 12, 0, 4, 0, 26, 0, 5, 0, 0, 0, 480, 0, 40, 0, 0, 64, 0, 8, 0, 0, 12, 0, 4, 0, 26, 0, 5, 0, 0, 0, 480, 0, 40, 0, 0, 64, 0, 8, 0, 0, 12, 0, 4, 0, 26, 0, 5, 0, 0, 0, 480, 0, 40, 0, 0, 64, 0, 8, 0, 0, 12, 0, 4, 0, 26, 0, 5, 0, 0, 40, 0, 40, 0, 40, 0, 0, 40, 0, 0, 40, 0, 0, 40, 0, 40, 0, 40, 0, 40, 0, 40, 0, 40]
def kd (k : Nat) : Nat := kdL.getD k 99
def ln (k : Nat) : Nat := lnL.getD k 0
theorem kd_lt {k : Nat} (h : kd k ≠ 99) : k < 132 := by
  rcases Nat.lt_or_ge k 132 with q | q
  · exact q
  · exact absurd (show kdL.getD k 99 = 99 by rw [List.getD_eq_getElem?_getD, List.getElem?_eq_none (show kdL.length ≤ k from q)]; rfl) h
def up1 (C : kS) (k : Nat) (f : Nat → Int32) : kS := fun j => if j = k then f else C j
theorem up1_s (C : kS) (k : Nat) (f : Nat → Int32) : up1 C k f k = f := if_pos rfl
theorem up1_n {C : kS} {k j : Nat} {f : Nat → Int32} (h : j ≠ k) : up1 C k f j = C j := if_neg h
def ceC (cI cS : ClassId) (ad : Nat → Nat) (C : kS) (k : Nat) : va_E := match kd k with
  | 0 => .inr (0, [.ref (ad 106), .ref (ad (k + 1))])
  | 1 => .inr (1, [.ref (ad (k + 1)), .ref (ad (k + 3)), .ref (ad (k + 5)), .int (C k 3), .int (C k 4)])
  | 2 => .inr (2, [.ref (ad (k + 1)), .int (C k 1)])
  | 3 => .inr (3, [.ref (ad (k + 1))])
  | 4 => .inr (4, [.ref (ad 4), .ref (ad 106), .ref (ad (k + 1)), .ref (ad (k + 3)), .ref (ad (k + 5)), .ref (ad (k + 7)), .ref (ad (k + 9)), .ref (ad (k + 11)), .int (C k 8)])
  | 5 => .inr (5, [.ref (ad (k + 1)), .ref (ad (k + 6)), .ref (ad (k + 11)), .ref (ad (k + 16)), .ref (ad (k + 18))])
  | 6 => .inr (6, [.ref (ad (k + 1)), .int (C k 1)])
  | 7 => .inr (7, [.int (C k 0), .int (C k 1), .ref (ad (k + 1)), .ref (ad (k + 3)), .int (C k 4)])
  | 8 => .inr (8, [.ref (ad 1), .ref (ad 4), .ref (ad 24), .ref (ad 106), .ref (ad 113), .ref (ad 116), .ref (ad 119)])
  | 11 => .inl (cS, ln k, .inr (.inr (.inr (.inr (fun i => some (ad (C k i).toNatClampNeg))))))
  | _ => .inl (cI, ln k, .inl (C k))
def WC (cI cS : ClassId) (ad : Nat → Nat) (C : kS) : va_W := (List.range 132).map (fun k => (ad k, ceC cI cS ad C k))
def kInj (n : Nat) (ad : Nat → Nat) : Prop := ∀ i j : Nat, i < n → j < n → ad i = ad j → i = j
def kAd (n : Nat) (ad : Nat → Nat) : Nat → Prop := fun q => ∃ k, k < n ∧ q = ad k
theorem kW_D {n : Nat} {ad : Nat → Nat} (h : kInj n ad) (f : Nat → va_E) : va_D (kAd n ad) ((List.range n).map (fun k => (ad k, f k))) := by
  have e : ∀ (i : Nat) (p : Nat × va_E), ((List.range n).map (fun k => (ad k, f k)))[i]? = some p → i < n ∧ p.1 = ad i := by
    intro i p hp
    have hi : i < n := by
      have h1 := (List.getElem?_eq_some_iff.mp hp).1
      simpa using h1
    rw [List.getElem?_map, List.getElem?_range hi] at hp
    cases hp
    exact ⟨hi, rfl⟩
  refine ⟨fun i j p q hp hq hpq => ?_, fun k q hq => ⟨k, e k q hq⟩⟩
  obtain ⟨a1, a2⟩ := e i p hp
  obtain ⟨b1, b2⟩ := e j q hq
  exact h i j a1 b1 (by rw [← a2, ← b2]; exact hpq)
section KWC
variable {cI cS : ClassId} {ad : Nat → Nat} {C C' : kS} {k : Nat}
theorem WC_at (hk : k < 132) : (WC cI cS ad C)[k]? = some (ad k, ceC cI cS ad C k) := by
  unfold WC
  rw [List.getElem?_map, List.getElem?_range hk]
  rfl
theorem WC_D (h : kInj 132 ad) (C : kS) : va_D (kAd 132 ad) (WC cI cS ad C) := kW_D h _
theorem ceC_congr (h : C' k = C k) : ceC cI cS ad C' k = ceC cI cS ad C k := by
  unfold ceC
  rw [h]
theorem WC_set {e : va_E} (hk : k < 132) (he : ceC cI cS ad C' k = e) (ho : ∀ j, j ≠ k → C' j = C j) : (WC cI cS ad C).set k (ad k, e) = WC cI cS ad C' := by
  apply List.ext_getElem?
  intro i
  rw [List.getElem?_set]
  by_cases hi : k = i
  · subst hi
    rw [if_pos rfl, if_pos (by unfold WC; simpa using hk), WC_at hk, he]
  · rw [if_neg hi]
    by_cases h2 : i < 132
    · rw [WC_at h2, WC_at h2, ceC_congr (ho i (fun q => hi q.symm))]
    · rw [List.getElem?_eq_none (by unfold WC; simp; omega), List.getElem?_eq_none (by unfold WC; simp; omega)]
theorem wc0 (h : kd k = 0) : (WC cI cS ad C)[k]? = some (ad k, .inr (0, [.ref (ad 106), .ref (ad (k + 1))])) := by
  rw [WC_at (kd_lt (by rw [h]; decide))]
  simp only [ceC, h]
theorem wc1 (h : kd k = 1) : (WC cI cS ad C)[k]? = some (ad k, .inr (1, [.ref (ad (k + 1)), .ref (ad (k + 3)), .ref (ad (k + 5)), .int (C k 3), .int (C k 4)])) := by
  rw [WC_at (kd_lt (by rw [h]; decide))]
  simp only [ceC, h]
theorem wc2 (h : kd k = 2) : (WC cI cS ad C)[k]? = some (ad k, .inr (2, [.ref (ad (k + 1)), .int (C k 1)])) := by
  rw [WC_at (kd_lt (by rw [h]; decide))]
  simp only [ceC, h]
theorem wc3 (h : kd k = 3) : (WC cI cS ad C)[k]? = some (ad k, .inr (3, [.ref (ad (k + 1))])) := by
  rw [WC_at (kd_lt (by rw [h]; decide))]
  simp only [ceC, h]
theorem wc4 (h : kd k = 4) : (WC cI cS ad C)[k]? = some (ad k, .inr (4, [.ref (ad 4), .ref (ad 106), .ref (ad (k + 1)), .ref (ad (k + 3)), .ref (ad (k + 5)), .ref (ad (k + 7)), .ref (ad (k + 9)), .ref (ad (k + 11)), .int (C k 8)])) := by
  rw [WC_at (kd_lt (by rw [h]; decide))]
  simp only [ceC, h]
theorem wc5 (h : kd k = 5) : (WC cI cS ad C)[k]? = some (ad k, .inr (5, [.ref (ad (k + 1)), .ref (ad (k + 6)), .ref (ad (k + 11)), .ref (ad (k + 16)), .ref (ad (k + 18))])) := by
  rw [WC_at (kd_lt (by rw [h]; decide))]
  simp only [ceC, h]
theorem wc6 (h : kd k = 6) : (WC cI cS ad C)[k]? = some (ad k, .inr (6, [.ref (ad (k + 1)), .int (C k 1)])) := by
  rw [WC_at (kd_lt (by rw [h]; decide))]
  simp only [ceC, h]
theorem wc7 (h : kd k = 7) : (WC cI cS ad C)[k]? = some (ad k, .inr (7, [.int (C k 0), .int (C k 1), .ref (ad (k + 1)), .ref (ad (k + 3)), .int (C k 4)])) := by
  rw [WC_at (kd_lt (by rw [h]; decide))]
  simp only [ceC, h]
theorem wc8 (h : kd k = 8) : (WC cI cS ad C)[k]? = some (ad k, .inr (8, [.ref (ad 1), .ref (ad 4), .ref (ad 24), .ref (ad 106), .ref (ad 113), .ref (ad 116), .ref (ad 119)])) := by
  rw [WC_at (kd_lt (by rw [h]; decide))]
  simp only [ceC, h]
theorem wcA (h : kd k = 10) : (WC cI cS ad C)[k]? = some (ad k, .inl (cI, ln k, .inl (C k))) := by
  rw [WC_at (kd_lt (by rw [h]; decide))]
  simp only [ceC, h]
theorem wcR (h : kd k = 11) : (WC cI cS ad C)[k]? = some (ad k, .inl (cS, ln k, .inr (.inr (.inr (.inr (fun i => some (ad (C k i).toNatClampNeg))))))) := by
  rw [WC_at (kd_lt (by rw [h]; decide))]
  simp only [ceC, h]
theorem scA (h : kd k = 10) (f : Nat → Int32) : (WC cI cS ad C).set k (ad k, .inl (cI, ln k, .inl f)) = WC cI cS ad (up1 C k f) := WC_set (kd_lt (by rw [h]; decide)) (by simp only [ceC, h, up1_s]) (fun j hj => up1_n hj)
theorem scR (h : kd k = 11) (i : Nat) (x : Int32) : (WC cI cS ad C).set k (ad k, .inl (cS, ln k, .inr (.inr (.inr (.inr (va_up (fun i => some (ad (C k i).toNatClampNeg)) i (some (ad x.toNatClampNeg)))))))) = WC cI cS ad (up1 C k (upd (C k) i x)) := WC_set (kd_lt (by rw [h]; decide)) (by
  simp only [ceC, h, up1_s]
  have e : (fun i_1 => some (ad (upd (C k) i x i_1).toNatClampNeg)) = va_up (fun i => some (ad (C k i).toNatClampNeg)) i (some (ad x.toNatClampNeg)) := by
    funext j
    unfold upd va_up
    by_cases hj : j = i
    · rw [if_pos hj, if_pos hj]
    · rw [if_neg hj, if_neg hj]
  rw [e]) (fun j hj => up1_n hj)
theorem sc7_4 (h : kd k = 7) (v : Int32) : (WC cI cS ad C).set k (ad k, .inr (7, ([.int (C k 0), .int (C k 1), .ref (ad (k + 1)), .ref (ad (k + 3)), .int (C k 4)] : List Value).set 4 (.int v))) = WC cI cS ad (up1 C k (upd (C k) 4 v)) := WC_set (kd_lt (by rw [h]; decide)) (by simp [ceC, h, up1_s, upd]) (fun j hj => up1_n hj)
theorem sc6_1 (h : kd k = 6) (v : Int32) : (WC cI cS ad C).set k (ad k, .inr (6, ([.ref (ad (k + 1)), .int (C k 1)] : List Value).set 1 (.int v))) = WC cI cS ad (up1 C k (upd (C k) 1 v)) := WC_set (kd_lt (by rw [h]; decide)) (by simp [ceC, h, up1_s, upd]) (fun j hj => up1_n hj)
theorem sc2_1 (h : kd k = 2) (v : Int32) : (WC cI cS ad C).set k (ad k, .inr (2, ([.ref (ad (k + 1)), .int (C k 1)] : List Value).set 1 (.int v))) = WC cI cS ad (up1 C k (upd (C k) 1 v)) := WC_set (kd_lt (by rw [h]; decide)) (by simp [ceC, h, up1_s, upd]) (fun j hj => up1_n hj)
theorem sc1_3 (h : kd k = 1) (v : Int32) : (WC cI cS ad C).set k (ad k, .inr (1, ([.ref (ad (k + 1)), .ref (ad (k + 3)), .ref (ad (k + 5)), .int (C k 3), .int (C k 4)] : List Value).set 3 (.int v))) = WC cI cS ad (up1 C k (upd (C k) 3 v)) := WC_set (kd_lt (by rw [h]; decide)) (by simp [ceC, h, up1_s, upd]) (fun j hj => up1_n hj)
theorem sc1_4 (h : kd k = 1) (v : Int32) : (WC cI cS ad C).set k (ad k, .inr (1, ([.ref (ad (k + 1)), .ref (ad (k + 3)), .ref (ad (k + 5)), .int (C k 3), .int (C k 4)] : List Value).set 4 (.int v))) = WC cI cS ad (up1 C k (upd (C k) 4 v)) := WC_set (kd_lt (by rw [h]; decide)) (by simp [ceC, h, up1_s, upd]) (fun j hj => up1_n hj)
theorem sc4_8 (h : kd k = 4) (v : Int32) : (WC cI cS ad C).set k (ad k, .inr (4, ([.ref (ad 4), .ref (ad 106), .ref (ad (k + 1)), .ref (ad (k + 3)), .ref (ad (k + 5)), .ref (ad (k + 7)), .ref (ad (k + 9)), .ref (ad (k + 11)), .int (C k 8)] : List Value).set 8 (.int v))) = WC cI cS ad (up1 C k (upd (C k) 8 v)) := WC_set (kd_lt (by rw [h]; decide)) (by simp [ceC, h, up1_s, upd]) (fun j hj => up1_n hj)
end KWC
theorem kd3_1 {k : Nat} (h : kd k = 3) : kd (k + 1) = 10 := (show ∀ k, k < 132 → kd k = 3 → kd (k + 1) = 10 by decide +kernel) k (kd_lt (by rw [h]; decide)) h
theorem kd7_1 {k : Nat} (h : kd k = 7) : kd (k + 1) = 3 := (show ∀ k, k < 132 → kd k = 7 → kd (k + 1) = 3 by decide +kernel) k (kd_lt (by rw [h]; decide)) h
theorem kd7_3 {k : Nat} (h : kd k = 7) : kd (k + 3) = 3 := (show ∀ k, k < 132 → kd k = 7 → kd (k + 3) = 3 by decide +kernel) k (kd_lt (by rw [h]; decide)) h
theorem kd5_1 {k : Nat} (h : kd k = 5) : kd (k + 1) = 7 := (show ∀ k, k < 132 → kd k = 5 → kd (k + 1) = 7 by decide +kernel) k (kd_lt (by rw [h]; decide)) h
theorem kd5_6 {k : Nat} (h : kd k = 5) : kd (k + 6) = 7 := (show ∀ k, k < 132 → kd k = 5 → kd (k + 6) = 7 by decide +kernel) k (kd_lt (by rw [h]; decide)) h
theorem kd5_11 {k : Nat} (h : kd k = 5) : kd (k + 11) = 7 := (show ∀ k, k < 132 → kd k = 5 → kd (k + 11) = 7 by decide +kernel) k (kd_lt (by rw [h]; decide)) h
theorem kd5_16 {k : Nat} (h : kd k = 5) : kd (k + 16) = 3 := (show ∀ k, k < 132 → kd k = 5 → kd (k + 16) = 3 by decide +kernel) k (kd_lt (by rw [h]; decide)) h
theorem kd5_18 {k : Nat} (h : kd k = 5) : kd (k + 18) = 3 := (show ∀ k, k < 132 → kd k = 5 → kd (k + 18) = 3 by decide +kernel) k (kd_lt (by rw [h]; decide)) h
theorem kd0_1 {k : Nat} (h : kd k = 0) : kd (k + 1) = 3 := (show ∀ k, k < 132 → kd k = 0 → kd (k + 1) = 3 by decide +kernel) k (kd_lt (by rw [h]; decide)) h
theorem kd_0 : kd 0 = 8 := by decide +kernel
theorem kd_1 : kd 1 = 6 := by decide +kernel
theorem kd_2 : kd 2 = 3 := by decide +kernel
theorem kd_3 : kd 3 = 10 := by decide +kernel
theorem kd_4 : kd 4 = 5 := by decide +kernel
theorem kd_5 : kd 5 = 7 := by decide +kernel
theorem kd_6 : kd 6 = 3 := by decide +kernel
theorem kd_7 : kd 7 = 10 := by decide +kernel
theorem kd_8 : kd 8 = 3 := by decide +kernel
theorem kd_9 : kd 9 = 10 := by decide +kernel
theorem kd_10 : kd 10 = 7 := by decide +kernel
theorem kd_11 : kd 11 = 3 := by decide +kernel
theorem kd_12 : kd 12 = 10 := by decide +kernel
theorem kd_13 : kd 13 = 3 := by decide +kernel
theorem kd_14 : kd 14 = 10 := by decide +kernel
theorem kd_15 : kd 15 = 7 := by decide +kernel
theorem kd_16 : kd 16 = 3 := by decide +kernel
theorem kd_17 : kd 17 = 10 := by decide +kernel
theorem kd_18 : kd 18 = 3 := by decide +kernel
theorem kd_19 : kd 19 = 10 := by decide +kernel
theorem kd_20 : kd 20 = 3 := by decide +kernel
theorem kd_21 : kd 21 = 10 := by decide +kernel
theorem kd_22 : kd 22 = 3 := by decide +kernel
theorem kd_23 : kd 23 = 10 := by decide +kernel
theorem kd_24 : kd 24 = 2 := by decide +kernel
theorem kd_25 : kd 25 = 11 := by decide +kernel
theorem kd_26 : kd 26 = 5 := by decide +kernel
theorem kd_27 : kd 27 = 7 := by decide +kernel
theorem kd_28 : kd 28 = 3 := by decide +kernel
theorem kd_29 : kd 29 = 10 := by decide +kernel
theorem kd_30 : kd 30 = 3 := by decide +kernel
theorem kd_31 : kd 31 = 10 := by decide +kernel
theorem kd_32 : kd 32 = 7 := by decide +kernel
theorem kd_33 : kd 33 = 3 := by decide +kernel
theorem kd_34 : kd 34 = 10 := by decide +kernel
theorem kd_35 : kd 35 = 3 := by decide +kernel
theorem kd_36 : kd 36 = 10 := by decide +kernel
theorem kd_37 : kd 37 = 7 := by decide +kernel
theorem kd_38 : kd 38 = 3 := by decide +kernel
theorem kd_39 : kd 39 = 10 := by decide +kernel
theorem kd_40 : kd 40 = 3 := by decide +kernel
theorem kd_41 : kd 41 = 10 := by decide +kernel
theorem kd_42 : kd 42 = 3 := by decide +kernel
theorem kd_43 : kd 43 = 10 := by decide +kernel
theorem kd_44 : kd 44 = 3 := by decide +kernel
theorem kd_45 : kd 45 = 10 := by decide +kernel
theorem kd_46 : kd 46 = 5 := by decide +kernel
theorem kd_47 : kd 47 = 7 := by decide +kernel
theorem kd_48 : kd 48 = 3 := by decide +kernel
theorem kd_49 : kd 49 = 10 := by decide +kernel
theorem kd_50 : kd 50 = 3 := by decide +kernel
theorem kd_51 : kd 51 = 10 := by decide +kernel
theorem kd_52 : kd 52 = 7 := by decide +kernel
theorem kd_53 : kd 53 = 3 := by decide +kernel
theorem kd_54 : kd 54 = 10 := by decide +kernel
theorem kd_55 : kd 55 = 3 := by decide +kernel
theorem kd_56 : kd 56 = 10 := by decide +kernel
theorem kd_57 : kd 57 = 7 := by decide +kernel
theorem kd_58 : kd 58 = 3 := by decide +kernel
theorem kd_59 : kd 59 = 10 := by decide +kernel
theorem kd_60 : kd 60 = 3 := by decide +kernel
theorem kd_61 : kd 61 = 10 := by decide +kernel
theorem kd_62 : kd 62 = 3 := by decide +kernel
theorem kd_63 : kd 63 = 10 := by decide +kernel
theorem kd_64 : kd 64 = 3 := by decide +kernel
theorem kd_65 : kd 65 = 10 := by decide +kernel
theorem kd_66 : kd 66 = 5 := by decide +kernel
theorem kd_67 : kd 67 = 7 := by decide +kernel
theorem kd_68 : kd 68 = 3 := by decide +kernel
theorem kd_69 : kd 69 = 10 := by decide +kernel
theorem kd_70 : kd 70 = 3 := by decide +kernel
theorem kd_71 : kd 71 = 10 := by decide +kernel
theorem kd_72 : kd 72 = 7 := by decide +kernel
theorem kd_73 : kd 73 = 3 := by decide +kernel
theorem kd_74 : kd 74 = 10 := by decide +kernel
theorem kd_75 : kd 75 = 3 := by decide +kernel
theorem kd_76 : kd 76 = 10 := by decide +kernel
theorem kd_77 : kd 77 = 7 := by decide +kernel
theorem kd_78 : kd 78 = 3 := by decide +kernel
theorem kd_79 : kd 79 = 10 := by decide +kernel
theorem kd_80 : kd 80 = 3 := by decide +kernel
theorem kd_81 : kd 81 = 10 := by decide +kernel
theorem kd_82 : kd 82 = 3 := by decide +kernel
theorem kd_83 : kd 83 = 10 := by decide +kernel
theorem kd_84 : kd 84 = 3 := by decide +kernel
theorem kd_85 : kd 85 = 10 := by decide +kernel
theorem kd_86 : kd 86 = 5 := by decide +kernel
theorem kd_87 : kd 87 = 7 := by decide +kernel
theorem kd_88 : kd 88 = 3 := by decide +kernel
theorem kd_89 : kd 89 = 10 := by decide +kernel
theorem kd_90 : kd 90 = 3 := by decide +kernel
theorem kd_91 : kd 91 = 10 := by decide +kernel
theorem kd_92 : kd 92 = 7 := by decide +kernel
theorem kd_93 : kd 93 = 3 := by decide +kernel
theorem kd_94 : kd 94 = 10 := by decide +kernel
theorem kd_95 : kd 95 = 3 := by decide +kernel
theorem kd_96 : kd 96 = 10 := by decide +kernel
theorem kd_97 : kd 97 = 7 := by decide +kernel
theorem kd_98 : kd 98 = 3 := by decide +kernel
theorem kd_99 : kd 99 = 10 := by decide +kernel
theorem kd_100 : kd 100 = 3 := by decide +kernel
theorem kd_101 : kd 101 = 10 := by decide +kernel
theorem kd_102 : kd 102 = 3 := by decide +kernel
theorem kd_103 : kd 103 = 10 := by decide +kernel
theorem kd_104 : kd 104 = 3 := by decide +kernel
theorem kd_105 : kd 105 = 10 := by decide +kernel
theorem kd_106 : kd 106 = 1 := by decide +kernel
theorem kd_107 : kd 107 = 3 := by decide +kernel
theorem kd_108 : kd 108 = 10 := by decide +kernel
theorem kd_109 : kd 109 = 3 := by decide +kernel
theorem kd_110 : kd 110 = 10 := by decide +kernel
theorem kd_111 : kd 111 = 3 := by decide +kernel
theorem kd_112 : kd 112 = 10 := by decide +kernel
theorem kd_113 : kd 113 = 0 := by decide +kernel
theorem kd_114 : kd 114 = 3 := by decide +kernel
theorem kd_115 : kd 115 = 10 := by decide +kernel
theorem kd_116 : kd 116 = 0 := by decide +kernel
theorem kd_117 : kd 117 = 3 := by decide +kernel
theorem kd_118 : kd 118 = 10 := by decide +kernel
theorem kd_119 : kd 119 = 4 := by decide +kernel
theorem kd_120 : kd 120 = 3 := by decide +kernel
theorem kd_121 : kd 121 = 10 := by decide +kernel
theorem kd_122 : kd 122 = 3 := by decide +kernel
theorem kd_123 : kd 123 = 10 := by decide +kernel
theorem kd_124 : kd 124 = 3 := by decide +kernel
theorem kd_125 : kd 125 = 10 := by decide +kernel
theorem kd_126 : kd 126 = 3 := by decide +kernel
theorem kd_127 : kd 127 = 10 := by decide +kernel
theorem kd_128 : kd 128 = 3 := by decide +kernel
theorem kd_129 : kd 129 = 10 := by decide +kernel
theorem kd_130 : kd 130 = 3 := by decide +kernel
theorem kd_131 : kd 131 = 10 := by decide +kernel
def lmL : List Nat := [0, 642, 2568, 200, 40, 40, 40, 40, 40, 40, 40]
def lm (k : Nat) : Nat := lmL.getD k 0
def ceM (cI : ClassId) (am : Nat → Nat) (M : kS) (k : Nat) : va_E := match k with
  | 0 => .inr (9, [.ref (am 1), .ref (am 2), .int (M 0 2), .ref (am 3), .int (M 0 4), .int (M 0 5), .ref (am 4), .ref (am 5), .ref (am 6), .int (M 0 9), .ref (am 7), .ref (am 8), .ref (am 9), .ref (am 10), .int (M 0 14)])
  | k + 1 => .inl (cI, lm (k + 1), .inl (M (k + 1)))
def WM (cI : ClassId) (am : Nat → Nat) (M : kS) : va_W := (List.range 11).map (fun k => (am k, ceM cI am M k))
section KWM
variable {cI : ClassId} {am : Nat → Nat} {M M' : kS} {k : Nat}
theorem WM_at (hk : k < 11) : (WM cI am M)[k]? = some (am k, ceM cI am M k) := by
  unfold WM
  rw [List.getElem?_map, List.getElem?_range hk]
  rfl
theorem WM_D (h : kInj 11 am) (M : kS) : va_D (kAd 11 am) (WM cI am M) := kW_D h _
theorem ceM_congr (h : M' k = M k) : ceM cI am M' k = ceM cI am M k := by
  unfold ceM
  cases k with
  | zero => simp only [h]
  | succ k => simp only [h]
theorem WM_set {e : va_E} (hk : k < 11) (he : ceM cI am M' k = e) (ho : ∀ j, j ≠ k → M' j = M j) : (WM cI am M).set k (am k, e) = WM cI am M' := by
  apply List.ext_getElem?
  intro i
  rw [List.getElem?_set]
  by_cases hi : k = i
  · subst hi
    rw [if_pos rfl, if_pos (by unfold WM; simpa using hk), WM_at hk, he]
  · rw [if_neg hi]
    by_cases h2 : i < 11
    · rw [WM_at h2, WM_at h2, ceM_congr (ho i (fun q => hi q.symm))]
    · rw [List.getElem?_eq_none (by unfold WM; simp; omega), List.getElem?_eq_none (by unfold WM; simp; omega)]
theorem wm0 : (WM cI am M)[0]? = some (am 0, .inr (9, [.ref (am 1), .ref (am 2), .int (M 0 2), .ref (am 3), .int (M 0 4), .int (M 0 5), .ref (am 4), .ref (am 5), .ref (am 6), .int (M 0 9), .ref (am 7), .ref (am 8), .ref (am 9), .ref (am 10), .int (M 0 14)])) := WM_at (by decide)
theorem wm1 : (WM cI am M)[1]? = some (am 1, .inl (cI, 642, .inl (M 1))) := WM_at (by decide)
theorem sm1 (f : Nat → Int32) : (WM cI am M).set 1 (am 1, .inl (cI, 642, .inl f)) = WM cI am (up1 M 1 f) := WM_set (by decide) (by simp only [ceM, up1_s]; rfl) (fun j hj => up1_n hj)
theorem wm2 : (WM cI am M)[2]? = some (am 2, .inl (cI, 2568, .inl (M 2))) := WM_at (by decide)
theorem sm2 (f : Nat → Int32) : (WM cI am M).set 2 (am 2, .inl (cI, 2568, .inl f)) = WM cI am (up1 M 2 f) := WM_set (by decide) (by simp only [ceM, up1_s]; rfl) (fun j hj => up1_n hj)
theorem wm3 : (WM cI am M)[3]? = some (am 3, .inl (cI, 200, .inl (M 3))) := WM_at (by decide)
theorem sm3 (f : Nat → Int32) : (WM cI am M).set 3 (am 3, .inl (cI, 200, .inl f)) = WM cI am (up1 M 3 f) := WM_set (by decide) (by simp only [ceM, up1_s]; rfl) (fun j hj => up1_n hj)
theorem wm4 : (WM cI am M)[4]? = some (am 4, .inl (cI, 40, .inl (M 4))) := WM_at (by decide)
theorem sm4 (f : Nat → Int32) : (WM cI am M).set 4 (am 4, .inl (cI, 40, .inl f)) = WM cI am (up1 M 4 f) := WM_set (by decide) (by simp only [ceM, up1_s]; rfl) (fun j hj => up1_n hj)
theorem wm5 : (WM cI am M)[5]? = some (am 5, .inl (cI, 40, .inl (M 5))) := WM_at (by decide)
theorem sm5 (f : Nat → Int32) : (WM cI am M).set 5 (am 5, .inl (cI, 40, .inl f)) = WM cI am (up1 M 5 f) := WM_set (by decide) (by simp only [ceM, up1_s]; rfl) (fun j hj => up1_n hj)
theorem wm6 : (WM cI am M)[6]? = some (am 6, .inl (cI, 40, .inl (M 6))) := WM_at (by decide)
theorem sm6 (f : Nat → Int32) : (WM cI am M).set 6 (am 6, .inl (cI, 40, .inl f)) = WM cI am (up1 M 6 f) := WM_set (by decide) (by simp only [ceM, up1_s]; rfl) (fun j hj => up1_n hj)
theorem wm7 : (WM cI am M)[7]? = some (am 7, .inl (cI, 40, .inl (M 7))) := WM_at (by decide)
theorem sm7 (f : Nat → Int32) : (WM cI am M).set 7 (am 7, .inl (cI, 40, .inl f)) = WM cI am (up1 M 7 f) := WM_set (by decide) (by simp only [ceM, up1_s]; rfl) (fun j hj => up1_n hj)
theorem wm8 : (WM cI am M)[8]? = some (am 8, .inl (cI, 40, .inl (M 8))) := WM_at (by decide)
theorem sm8 (f : Nat → Int32) : (WM cI am M).set 8 (am 8, .inl (cI, 40, .inl f)) = WM cI am (up1 M 8 f) := WM_set (by decide) (by simp only [ceM, up1_s]; rfl) (fun j hj => up1_n hj)
theorem wm9 : (WM cI am M)[9]? = some (am 9, .inl (cI, 40, .inl (M 9))) := WM_at (by decide)
theorem sm9 (f : Nat → Int32) : (WM cI am M).set 9 (am 9, .inl (cI, 40, .inl f)) = WM cI am (up1 M 9 f) := WM_set (by decide) (by simp only [ceM, up1_s]; rfl) (fun j hj => up1_n hj)
theorem wm10 : (WM cI am M)[10]? = some (am 10, .inl (cI, 40, .inl (M 10))) := WM_at (by decide)
theorem sm10 (f : Nat → Int32) : (WM cI am M).set 10 (am 10, .inl (cI, 40, .inl f)) = WM cI am (up1 M 10 f) := WM_set (by decide) (by simp only [ceM, up1_s]; rfl) (fun j hj => up1_n hj)
theorem sm0_2 (v : Int32) : (WM cI am M).set 0 (am 0, .inr (9, ([.ref (am 1), .ref (am 2), .int (M 0 2), .ref (am 3), .int (M 0 4), .int (M 0 5), .ref (am 4), .ref (am 5), .ref (am 6), .int (M 0 9), .ref (am 7), .ref (am 8), .ref (am 9), .ref (am 10), .int (M 0 14)] : List Value).set 2 (.int v))) = WM cI am (up1 M 0 (upd (M 0) 2 v)) := WM_set (by decide) (by simp [ceM, up1_s, upd]) (fun j hj => up1_n hj)
theorem sm0_4 (v : Int32) : (WM cI am M).set 0 (am 0, .inr (9, ([.ref (am 1), .ref (am 2), .int (M 0 2), .ref (am 3), .int (M 0 4), .int (M 0 5), .ref (am 4), .ref (am 5), .ref (am 6), .int (M 0 9), .ref (am 7), .ref (am 8), .ref (am 9), .ref (am 10), .int (M 0 14)] : List Value).set 4 (.int v))) = WM cI am (up1 M 0 (upd (M 0) 4 v)) := WM_set (by decide) (by simp [ceM, up1_s, upd]) (fun j hj => up1_n hj)
theorem sm0_5 (v : Int32) : (WM cI am M).set 0 (am 0, .inr (9, ([.ref (am 1), .ref (am 2), .int (M 0 2), .ref (am 3), .int (M 0 4), .int (M 0 5), .ref (am 4), .ref (am 5), .ref (am 6), .int (M 0 9), .ref (am 7), .ref (am 8), .ref (am 9), .ref (am 10), .int (M 0 14)] : List Value).set 5 (.int v))) = WM cI am (up1 M 0 (upd (M 0) 5 v)) := WM_set (by decide) (by simp [ceM, up1_s, upd]) (fun j hj => up1_n hj)
theorem sm0_9 (v : Int32) : (WM cI am M).set 0 (am 0, .inr (9, ([.ref (am 1), .ref (am 2), .int (M 0 2), .ref (am 3), .int (M 0 4), .int (M 0 5), .ref (am 4), .ref (am 5), .ref (am 6), .int (M 0 9), .ref (am 7), .ref (am 8), .ref (am 9), .ref (am 10), .int (M 0 14)] : List Value).set 9 (.int v))) = WM cI am (up1 M 0 (upd (M 0) 9 v)) := WM_set (by decide) (by simp [ceM, up1_s, upd]) (fun j hj => up1_n hj)
theorem sm0_14 (v : Int32) : (WM cI am M).set 0 (am 0, .inr (9, ([.ref (am 1), .ref (am 2), .int (M 0 2), .ref (am 3), .int (M 0 4), .int (M 0 5), .ref (am 4), .ref (am 5), .ref (am 6), .int (M 0 9), .ref (am 7), .ref (am 8), .ref (am 9), .ref (am 10), .int (M 0 14)] : List Value).set 14 (.int v))) = WM cI am (up1 M 0 (upd (M 0) 14 v)) := WM_set (by decide) (by simp [ceM, up1_s, upd]) (fun j hj => up1_n hj)
end KWM
