/-! ===== the law's worlds: g (8 ints), x (26 ints), t (14 longs); beside the class; with rows that a method makes ===== -/
def WL3 (cI cJ : ClassId) (al : Nat → Nat) (L : kS) : va_W := [(al 0, .inl (cI, 8, .inl (L 0))), (al 1, .inl (cI, 26, .inl (L 1))), (al 2, .inl (cJ, 14, .inr (.inl (fun i => (L 2 i).toInt64))))]
def WLb (cI cJ : ClassId) (al : Nat → Nat) (q : Nat) (L : kS) : va_W := WL3 cI cJ al L ++ [(q, .inl (cI, 12, .inl (L 3)))]
def WCL (cI cS cJ : ClassId) (ad al : Nat → Nat) (p : kS × kS) : va_W := WC cI cS ad p.1 ++ WL3 cI cJ al p.2
def WCL1 (cI cS cJ : ClassId) (ad al : Nat → Nat) (q4 : Nat) (p : kS × kS) : va_W := WCL cI cS cJ ad al p ++ [(q4, .inl (cI, 6, .inl (p.2 4)))]
def WCL2 (cI cS cJ : ClassId) (ad al : Nat → Nat) (q4 q5 : Nat) (p : kS × kS) : va_W := WCL1 cI cS cJ ad al q4 p ++ [(q5, .inl (cI, 8, .inl (p.2 5)))]
section LW
variable {cI cS cJ : ClassId} {ad al : Nat → Nat} {L L' : kS} {p p' : kS × kS} {q q4 q5 : Nat}
theorem w3_0 : (WL3 cI cJ al L)[0]? = some (al 0, .inl (cI, 8, .inl (L 0))) := rfl
theorem w3_1 : (WL3 cI cJ al L)[1]? = some (al 1, .inl (cI, 26, .inl (L 1))) := rfl
theorem w3_2 : (WL3 cI cJ al L)[2]? = some (al 2, .inl (cJ, 14, .inr (.inl (fun i => (L 2 i).toInt64)))) := rfl
theorem wb_0 : (WLb cI cJ al q L)[0]? = some (al 0, .inl (cI, 8, .inl (L 0))) := rfl
theorem wb_1 : (WLb cI cJ al q L)[1]? = some (al 1, .inl (cI, 26, .inl (L 1))) := rfl
theorem wb_2 : (WLb cI cJ al q L)[2]? = some (al 2, .inl (cJ, 14, .inr (.inl (fun i => (L 2 i).toInt64)))) := rfl
theorem wb_3 : (WLb cI cJ al q L)[3]? = some (q, .inl (cI, 12, .inl (L 3))) := rfl
theorem WC_len {C : kS} : (WC cI cS ad C).length = 132 := by unfold WC; simp
theorem wcl_0 : (WCL cI cS cJ ad al p)[132]? = some (al 0, .inl (cI, 8, .inl (p.2 0))) := at_r (w1 := WC cI cS ad p.1) (w2 := WL3 cI cJ al p.2) (k := 0) rfl WC_len
theorem wcl_1 : (WCL cI cS cJ ad al p)[133]? = some (al 1, .inl (cI, 26, .inl (p.2 1))) := at_r (w1 := WC cI cS ad p.1) (w2 := WL3 cI cJ al p.2) (k := 1) rfl WC_len
theorem wcl_2 : (WCL cI cS cJ ad al p)[134]? = some (al 2, .inl (cJ, 14, .inr (.inl (fun i => (p.2 2 i).toInt64)))) := at_r (w1 := WC cI cS ad p.1) (w2 := WL3 cI cJ al p.2) (k := 2) rfl WC_len
theorem WCL_len : (WCL cI cS cJ ad al p).length = 135 := by unfold WCL; rw [List.length_append, WC_len]; rfl
theorem WCL1_len : (WCL1 cI cS cJ ad al q4 p).length = 136 := by unfold WCL1; rw [List.length_append, WCL_len]; rfl
theorem wcm_0 : (WCL2 cI cS cJ ad al q4 q5 p)[132]? = some (al 0, .inl (cI, 8, .inl (p.2 0))) := at_l (at_l wcl_0)
theorem wcm_1 : (WCL2 cI cS cJ ad al q4 q5 p)[133]? = some (al 1, .inl (cI, 26, .inl (p.2 1))) := at_l (at_l wcl_1)
theorem wcm_2 : (WCL2 cI cS cJ ad al q4 q5 p)[134]? = some (al 2, .inl (cJ, 14, .inr (.inl (fun i => (p.2 2 i).toInt64)))) := at_l (at_l wcl_2)
theorem wcm_4 : (WCL2 cI cS cJ ad al q4 q5 p)[135]? = some (q4, .inl (cI, 6, .inl (p.2 4))) := at_l (at_r (w1 := WCL cI cS cJ ad al p) (k := 0) rfl WCL_len)
theorem wcm_5 : (WCL2 cI cS cJ ad al q4 q5 p)[136]? = some (q5, .inl (cI, 8, .inl (p.2 5))) := at_r (w1 := WCL1 cI cS cJ ad al q4 p) (k := 0) rfl WCL1_len
theorem set_r {w1 w2 : va_W} {k n : Nat} {x : Nat × va_E} (hn : w1.length = n) : (w1 ++ w2).set (n + k) x = w1 ++ w2.set k x := by
  subst hn
  rw [List.set_append_right _ _ (Nat.le_add_right _ _), Nat.add_sub_cancel_left]
theorem set_l {w1 w2 : va_W} {n : Nat} {x : Nat × va_E} (hn : n < w1.length) : (w1 ++ w2).set n x = w1.set n x ++ w2 := List.set_append_left _ _ hn
theorem WL3_c (h0 : L' 0 = L 0) (h1 : L' 1 = L 1) (h2 : L' 2 = L 2) : WL3 cI cJ al L' = WL3 cI cJ al L := by
  unfold WL3
  rw [h0, h1, h2]
theorem s3_0 (f : Nat → Int32) : (WL3 cI cJ al L).set 0 (al 0, .inl (cI, 8, .inl f)) = WL3 cI cJ al (up1 L 0 f) := rfl
theorem s3_1 (f : Nat → Int32) : (WL3 cI cJ al L).set 1 (al 1, .inl (cI, 26, .inl f)) = WL3 cI cJ al (up1 L 1 f) := rfl
theorem s3_2 (i : Nat) (v : Int64) (x : Int32) (h : x.toInt64 = v) : (WL3 cI cJ al L).set 2 (al 2, .inl (cJ, 14, .inr (.inl (vp_updL (fun i => (L 2 i).toInt64) i v)))) = WL3 cI cJ al (up1 L 2 (upd (L 2) i x)) := by
  have e : vp_updL (fun i => (L 2 i).toInt64) i v = fun j => ((upd (L 2) i x) j).toInt64 := by
    funext j
    unfold vp_updL upd
    by_cases hj : j = i
    · rw [if_pos hj, if_pos hj, h]
    · rw [if_neg hj, if_neg hj]
  rw [e]
  rfl
theorem sb_3 (f : Nat → Int32) : (WLb cI cJ al q L).set 3 (q, .inl (cI, 12, .inl f)) = WLb cI cJ al q (up1 L 3 f) := rfl
theorem scl_0 (f : Nat → Int32) : (WCL cI cS cJ ad al p).set 132 (al 0, .inl (cI, 8, .inl f)) = WCL cI cS cJ ad al (p.1, up1 p.2 0 f) := set_r (w1 := WC cI cS ad p.1) (w2 := WL3 cI cJ al p.2) (k := 0) WC_len
theorem scl_1 (f : Nat → Int32) : (WCL cI cS cJ ad al p).set 133 (al 1, .inl (cI, 26, .inl f)) = WCL cI cS cJ ad al (p.1, up1 p.2 1 f) := set_r (w1 := WC cI cS ad p.1) (w2 := WL3 cI cJ al p.2) (k := 1) WC_len
theorem scl_2 (i : Nat) (v : Int64) (x : Int32) (h : x.toInt64 = v) : (WCL cI cS cJ ad al p).set 134 (al 2, .inl (cJ, 14, .inr (.inl (vp_updL (fun i => (p.2 2 i).toInt64) i v)))) = WCL cI cS cJ ad al (p.1, up1 p.2 2 (upd (p.2 2) i x)) := (set_r (w1 := WC cI cS ad p.1) (w2 := WL3 cI cJ al p.2) (k := 2) WC_len).trans (congrArg (fun w => WC cI cS ad p.1 ++ w) (s3_2 i v x h))
theorem scm_4 (f : Nat → Int32) : (WCL2 cI cS cJ ad al q4 q5 p).set 135 (q4, .inl (cI, 6, .inl f)) = WCL2 cI cS cJ ad al q4 q5 (p.1, up1 p.2 4 f) := by
  unfold WCL2
  rw [set_l (by rw [WCL1_len]; decide)]
  unfold WCL1
  rw [set_r (k := 0) WCL_len]
  rfl
theorem scm_5 (f : Nat → Int32) : (WCL2 cI cS cJ ad al q4 q5 p).set 136 (q5, .inl (cI, 8, .inl f)) = WCL2 cI cS cJ ad al q4 q5 (p.1, up1 p.2 5 f) := by
  unfold WCL2
  rw [set_r (k := 0) WCL1_len]
  rfl
/-! the rows just made -/
theorem nw_b : WL3 cI cJ al L ++ [(q, .inl (cI, 12, .inl (fun _ => 0)))] = WLb cI cJ al q (up1 L 3 (fun _ => 0)) := rfl
theorem nw_4 : WCL cI cS cJ ad al p ++ [(q4, .inl (cI, 6, .inl (fun _ => 0)))] = WCL1 cI cS cJ ad al q4 (p.1, up1 p.2 4 (fun _ => 0)) := rfl
theorem nw_5 : WCL1 cI cS cJ ad al q4 p ++ [(q5, .inl (cI, 8, .inl (fun _ => 0)))] = WCL2 cI cS cJ ad al q4 q5 (p.1, up1 p.2 5 (fun _ => 0)) := rfl
/-! apart -/
theorem D_of {w w' : va_W} (h : va_D (fun _ => True) w) (e : w'.map Prod.fst = w.map Prod.fst) : va_D (fun _ => True) w' := by
  refine ⟨fun i j p q hp hq hpq => ?_, fun k q hk => trivial⟩
  have h1 : (w.map Prod.fst)[i]? = some p.1 := by rw [← e, List.getElem?_map, hp]; rfl
  have h2 : (w.map Prod.fst)[j]? = some q.1 := by rw [← e, List.getElem?_map, hq]; rfl
  rw [List.getElem?_map] at h1 h2
  cases h3 : w[i]? with
  | none => rw [h3] at h1; cases h1
  | some p' =>
    cases h4 : w[j]? with
    | none => rw [h4] at h2; cases h2
    | some q' =>
      rw [h3] at h1
      rw [h4] at h2
      have h5 : p'.1 = p.1 := Option.some.inj h1
      have h6 : q'.1 = q.1 := Option.some.inj h2
      exact h.1 i j p' q' h3 h4 (by rw [h5, h6, hpq])
theorem WC_fst {C C' : kS} : (WC cI cS ad C').map Prod.fst = (WC cI cS ad C).map Prod.fst := by
  unfold WC
  rw [List.map_map, List.map_map]
  rfl
theorem WL3_D (h : kInj 3 al) : va_D (fun _ => True) (WL3 cI cJ al L) := by
  have e : ∀ (i : Nat) (x : Nat × va_E), (WL3 cI cJ al L)[i]? = some x → i < 3 ∧ x.1 = al i := by
    intro i x hx
    match i, hx with
    | 0, hx => cases hx; exact ⟨by decide, rfl⟩
    | 1, hx => cases hx; exact ⟨by decide, rfl⟩
    | 2, hx => cases hx; exact ⟨by decide, rfl⟩
    | i + 3, hx => simp [WL3] at hx
  refine ⟨fun i j p q hp hq hpq => ?_, fun k q hk => trivial⟩
  obtain ⟨a1, a2⟩ := e i p hp
  obtain ⟨b1, b2⟩ := e j q hq
  exact h i j a1 b1 (by rw [← a2, ← b2]; exact hpq)
def lwD (ad al : Nat → Nat) : Prop := kInj 132 ad ∧ kInj 3 al ∧ ∀ i j : Nat, i < 132 → j < 3 → ad i ≠ al j
def lwA (ad al : Nat → Nat) : Nat → Prop := fun q => kAd 132 ad q ∨ kAd 3 al q
theorem WL3_ad {i : Nat} {x : Nat × va_E} (hx : (WL3 cI cJ al L)[i]? = some x) : i < 3 ∧ x.1 = al i := by
  match i, hx with
  | 0, hx => cases hx; exact ⟨by decide, rfl⟩
  | 1, hx => cases hx; exact ⟨by decide, rfl⟩
  | 2, hx => cases hx; exact ⟨by decide, rfl⟩
  | i + 3, hx => simp [WL3] at hx
theorem WC_ad {C : kS} {k : Nat} {x : Nat × va_E} (hx : (WC cI cS ad C)[k]? = some x) : k < 132 ∧ x.1 = ad k := by
  have hi : k < 132 := by
    have h1 := (List.getElem?_eq_some_iff.mp hx).1
    rw [WC_len] at h1
    exact h1
  rw [WC_at hi] at hx
  cases hx
  exact ⟨hi, rfl⟩
theorem WCL_D (h : lwD ad al) : va_D (fun _ => True) (WCL cI cS cJ ad al p) := by
  have e : ∀ (i : Nat) (x : Nat × va_E), (WCL cI cS cJ ad al p)[i]? = some x → (i < 132 ∧ x.1 = ad i) ∨ (∃ j, i = 132 + j ∧ j < 3 ∧ x.1 = al j) := by
    intro i x hx
    rcases Nat.lt_or_ge i 132 with z | z
    · unfold WCL at hx
      rw [List.getElem?_append_left (by rw [WC_len]; exact z)] at hx
      exact Or.inl (WC_ad hx)
    · unfold WCL at hx
      rw [List.getElem?_append_right (by rw [WC_len]; exact z), WC_len] at hx
      obtain ⟨a1, a2⟩ := WL3_ad hx
      exact Or.inr ⟨i - 132, by omega, a1, a2⟩
  refine ⟨fun i j p q hp hq hpq => ?_, fun k q hk => trivial⟩
  rcases e i p hp with ⟨a1, a2⟩ | ⟨a, a0, a1, a2⟩ <;> rcases e j q hq with ⟨b1, b2⟩ | ⟨b, b0, b1, b2⟩
  · exact h.1 i j a1 b1 (by rw [← a2, ← b2]; exact hpq)
  · exact absurd (by rw [← a2, ← b2]; exact hpq) (h.2.2 i b a1 b1)
  · exact absurd (by rw [← a2, ← b2]; exact hpq.symm) (h.2.2 j a b1 a1)
  · have := h.2.1 a b a1 b1 (by rw [← a2, ← b2]; exact hpq)
    omega
theorem WLb_fst : (WLb cI cJ al q L').map Prod.fst = (WLb cI cJ al q L).map Prod.fst := rfl
theorem WCL1_fst : (WCL1 cI cS cJ ad al q4 p').map Prod.fst = (WCL1 cI cS cJ ad al q4 p).map Prod.fst := by
  unfold WCL1 WCL
  rw [List.map_append, List.map_append, WC_fst (C := p.1) (C' := p'.1), List.map_append, List.map_append]
  rfl
theorem WCL2_fst : (WCL2 cI cS cJ ad al q4 q5 p').map Prod.fst = (WCL2 cI cS cJ ad al q4 q5 p).map Prod.fst := by
  unfold WCL2 WCL1 WCL
  rw [List.map_append, List.map_append, List.map_append, WC_fst (C := p.1) (C' := p'.1), List.map_append, List.map_append, List.map_append]
  rfl
theorem al_A {j : Nat} (hj : j < 3) : lwA ad al (al j) := Or.inr ⟨j, hj, rfl⟩
theorem al_B {j : Nat} (hj : j < 3) : kAd 3 al (al j) := ⟨j, hj, rfl⟩
end LW
section LW1
variable {g : kG} {cI cS cJ : ClassId} {cc : ByteArray} {own : String} {Ts : List Cond} {nL : Nat} {rm : Room} {A : Nat → Prop} {ad al : Nat → Nat} {C C' : kS} {p : kS × kS} {pc : Nat} {lv lv' : List (Option Value)} {st st0 : List Value} {LV GV : Nat} {W0 R : va_W}
variable {y : MethodName} {wsc wsc' : List Cond} {rmc : Room} {bytes : ByteArray} {maxL index : Nat} {ret : Option FieldType} {As : List Value} {r : Int32}
theorem kZ_mv {B : Nat → Prop} {s U : State} (h : kZ A LV GV s) (hW : s.vm.Alike U.vm) (hk : ∀ q : Nat, q < s.heap.size → ¬ A q → U.heap[q]? = s.heap[q]?) (hB : ∀ q, B q → A q) : kZ B LV GV U := ⟨⟨(va_Z.moved hW (va_Z.kept h.1.1 hk)).narrow hB, (va_T.moved hW (va_T.kept h.1.2 hk)).narrow hB⟩, (va_Z.moved hW (va_Z.kept h.2.1 hk)).narrow hB, (va_T.moved hW (va_T.kept h.2.2 hk)).narrow hB⟩
/-- a question to the class -/
theorem a_cI (X : Kx g cI cS cc own Ts nL rm) (hsub : ∀ H : Heap, va_P g.2.2.2.1 vwCl W0 H → va_P g.2.2.2.1 vwCl (WC cI cS ad C) H) (hM : mI g.1.2.1 y wsc rmc g.2.2.2.1 cI cS (WC cI cS ad) C (.ref (ad 0) :: As) r) (hG : GoodIn Ts (wsV own index RX8 y wsc)) (hw : wsc = Cond.code y bytes maxL ret :: wsc') (h0 : rmc.cells = 0 ∧ rmc.slots = 0) {n : Nat} (hC : y.cls = RX8) (hd : kHd y n) (hR : kRm rmc rm maxL) (hn : As.length = n) (hsum : (st.map fun v => v.category).sum ≤ 8) (hst : st0 = As.reverse ++ .ref (ad 0) :: st) (hdg : decode cc pc = .ok (.invokevirtual index, 3)) (kk : JA g W0 nL (pc + 3) lv (.int r :: st)) : JA g W0 nL pc lv st0 := by
  intro H locs ls hP hS hl
  subst hst
  have hk := X.2.2.2.2.2.1
  have hPC := hsub H hP
  refine vp_callSi (W.runV (As := As) (rest := st) (nL := nL) ⟨X.1, X.2.1, X.2.2.1, X.2.2.2.1, X.2.2.2.2.1⟩ hM (cwV n X.2.2.2.2.1 hG hw h0.1 h0.2 ⟨hC, hd⟩ (by rw [X.2.2.2.2.2.2.1]; exact hR)) ⟨fun a U f mk q => ⟨q.1, q.2.1, q.2.2.blind⟩, ?_, fun U hU hW => ⟨rfl, by rw [hU]; exact hPC, hk.warm hW⟩⟩ rfl hn hl.2.1 rfl (lv_room hsum) hdg ⟨by rw [X.2.2.2.2.2.2.1]; exact X.2.2.2.2.2.2.2.1, by rw [X.2.2.2.2.2.2.1]; exact X.2.2.2.2.2.2.2.2⟩) (fun r' hr' => ?_)
  · obtain ⟨cell, a1, a2, a3⟩ := va_recv hk.1 hPC (ci := 8) rfl (wc8 kd_0)
    exact ⟨cell, a1, a2, a3⟩
  · subst hr'
    exact kk H locs ls hP hS hl
/-- a change of the class, the law's cells beside it -/
theorem a_cW (X : Kx g cI cS cc own Ts nL rm) (hA : g.2.2.1 = va_S (lwA ad al) g.1.2.2.2.2.heap) (hI : lwD ad al) (hM : mW g.1.2.1 y wsc rmc g.2.2.2.1 cI cS (WC cI cS ad) (kAd 132 ad) p.1 (.ref (ad 0) :: As) r C') (hG : GoodIn Ts (wsV own index RX8 y wsc)) (hw : wsc = Cond.code y bytes maxL ret :: wsc') (h0 : rmc.cells = 0 ∧ rmc.slots = 0) {n : Nat} (hC : y.cls = RX8) (hd : kHd y n) (hR : kRm rmc rm maxL) (hn : As.length = n) (hsum : (st.map fun v => v.category).sum ≤ 8) (hst : st0 = As.reverse ++ .ref (ad 0) :: st) (hdg : decode cc pc = .ok (.invokevirtual index, 3)) (kk : JA g (WCL cI cS cJ ad al (C', p.2)) nL (pc + 3) lv (.int r :: st)) : JA g (WCL cI cS cJ ad al p) nL pc lv st0 := by
  intro H locs ls hP hS hl
  subst hst
  have hk := X.2.2.2.2.2.1
  have hP0 : va_P g.2.2.2.1 vwCl (WC cI cS ad p.1 ++ WL3 cI cJ al p.2) H := hP
  have hPC := P_l hP0
  have hPM := P_r hP0
  refine va_calli (va_runV (As := As) (rest := st) (nL := nL) ⟨X.1, X.2.1, X.2.2.1, X.2.2.2.1, X.2.2.2.2.1⟩ hM (cwV n X.2.2.2.2.1 hG hw h0.1 h0.2 ⟨hC, hd⟩ (by rw [X.2.2.2.2.2.2.1]; exact hR)) ⟨fun a U f mk q => ⟨q.1, q.2.1, q.2.2.blind⟩, ?_, fun U hU hW => ⟨rfl, by rw [hU]; exact hPC, hk.warm hW⟩⟩ rfl hn hl.2.1 rfl (lv_room hsum) hdg ⟨by rw [X.2.2.2.2.2.2.1]; exact X.2.2.2.2.2.2.2.1, by rw [X.2.2.2.2.2.2.1]; exact X.2.2.2.2.2.2.2.2⟩) (Eq.mp (congrFun (congrFun hA H) locs) hS) (fun _ _ h => Or.inl h) (fun _ h => Or.inl h) (fun r' u t H1 locs1 ht hvm hw hB hz hk1 hS1 => ?_)
  · obtain ⟨cell, a1, a2, a3⟩ := va_recv hk.1 hPC (ci := 8) rfl (wc8 kd_0)
    exact ⟨cell, a1, a2, a3⟩
  · have hw : r' = r := hw
    subst hw
    have hB1 : va_P g.2.2.2.1 vwCl (WC cI cS ad C') H1 := by rw [← ht]; exact hB
    exact kk H1 locs1 ls (hB1.app (hPM.kept (fun k x hx => hk1 x.1 (hPM k x hx).lt (fun ⟨i, hi, e⟩ => hI.2.2 i k hi (WL3_ad hx).1 (e.symm.trans (WL3_ad hx).2))))) (Eq.mpr (congrFun (congrFun hA H1) locs1) hS1) hl
theorem a_cE (X : Kx g cI cS cc own Ts nL rm) (hA : g.2.2.1 = va_S (lwA ad al) g.1.2.2.2.2.heap) (hI : lwD ad al) (hZ : kZ (lwA ad al) LV GV g.1.2.2.2.2) (hM : mWE g.1.2.1 y wsc rmc g.2.2.2.1 cI cS (WC cI cS ad) (kAd 132 ad) (kZ (kAd 132 ad) LV GV) p.1 (.ref (ad 0) :: As) r C') (hG : GoodIn Ts (wsV own index RX8 y wsc)) (hw : wsc = Cond.code y bytes maxL ret :: wsc') (h0 : rmc.cells = 0 ∧ rmc.slots = 0) {n : Nat} (hC : y.cls = RX8) (hd : kHd y n) (hR : kRm rmc rm maxL) (hn : As.length = n) (hsum : (st.map fun v => v.category).sum ≤ 8) (hst : st0 = As.reverse ++ .ref (ad 0) :: st) (hdg : decode cc pc = .ok (.invokevirtual index, 3)) (kk : JA g (WCL cI cS cJ ad al (C', p.2)) nL (pc + 3) lv (.int r :: st)) : JA g (WCL cI cS cJ ad al p) nL pc lv st0 := by
  intro H locs ls hP hS hl
  subst hst
  have hk := X.2.2.2.2.2.1
  have hP0 : va_P g.2.2.2.1 vwCl (WC cI cS ad p.1 ++ WL3 cI cJ al p.2) H := hP
  have hPC := P_l hP0
  have hPM := P_r hP0
  have hSA : va_S (lwA ad al) g.1.2.2.2.2.heap H locs := Eq.mp (congrFun (congrFun hA H) locs) hS
  refine va_calli (va_runV (As := As) (rest := st) (nL := nL) ⟨X.1, X.2.1, X.2.2.1, X.2.2.2.1, X.2.2.2.2.1⟩ hM (cwV n X.2.2.2.2.1 hG hw h0.1 h0.2 ⟨hC, hd⟩ (by rw [X.2.2.2.2.2.2.1]; exact hR)) ⟨fun a U f mk q => ⟨q.1, q.2.1, q.2.2.1.blind, kZ_mv q.2.2.2 (Vm.Alike.refl U.vm) (fun _ _ _ => rfl) (fun _ h => h)⟩, ?_, fun U hU hW => ⟨rfl, by rw [hU]; exact hPC, hk.warm hW, kZ_mv hZ hW.alike (fun q h1 h2 => by rw [hU]; exact hSA.2.1 q h1 h2) (fun _ h => Or.inl h)⟩⟩ rfl hn hl.2.1 rfl (lv_room hsum) hdg ⟨by rw [X.2.2.2.2.2.2.1]; exact X.2.2.2.2.2.2.2.1, by rw [X.2.2.2.2.2.2.1]; exact X.2.2.2.2.2.2.2.2⟩) hSA (fun _ _ h => Or.inl h) (fun _ h => Or.inl h) (fun r' u t H1 locs1 ht hvm hw hB hz hk1 hS1 => ?_)
  · obtain ⟨cell, a1, a2, a3⟩ := va_recv hk.1 hPC (ci := 8) rfl (wc8 kd_0)
    exact ⟨cell, a1, a2, a3⟩
  · have hw : r' = r := hw
    subst hw
    have hB1 : va_P g.2.2.2.1 vwCl (WC cI cS ad C') H1 := by rw [← ht]; exact hB
    exact kk H1 locs1 ls (hB1.app (hPM.kept (fun k x hx => hk1 x.1 (hPM k x hx).lt (fun ⟨i, hi, e⟩ => hI.2.2 i k hi (WL3_ad hx).1 (e.symm.trans (WL3_ad hx).2))))) (Eq.mpr (congrFun (congrFun hA H1) locs1) hS1) hl
end LW1
