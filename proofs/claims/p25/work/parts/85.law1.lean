/-! ===== the law's walk: what it stands on, its calls ===== -/
/-- what the law's start stands on -/
def Kz (g : kG) (cI cS : ClassId) (cc : ByteArray) (own : String) (Ts : List Cond) (nL : Nat) (rm : Room) (A : Nat → Prop) (E : (Nat → Prop) → State → Prop) : Prop :=
  Kx (gS g 0 0) cI cS cc own Ts nL rm ∧ g.2.2.1 = va_S A g.1.2.2.2.2.heap ∧ (∀ q : Nat, g.1.2.2.2.2.heap.size ≤ q → A q) ∧ E A g.1.2.2.2.2 ∧ eOk E
section KZ
variable {g : kG} {cI cS : ClassId} {cc : ByteArray} {own : String} {Ts : List Cond} {nL : Nat} {rm : Room} {A : Nat → Prop} {E Ec : (Nat → Prop) → State → Prop} {cs sl pc : Nat} {lv lv' : List (Option Value)} {st st0 : List Value} {ws pre : va_W}
variable {y : MethodName} {wsc wsc' : List Cond} {rmc : Room} {bytes : ByteArray} {maxL index mc ms : Nat} {As : List Value} {b : Nat} {e0 : va_E} {w : (Nat → Nat) → va_W}
theorem Kz.x (Y : Kz g cI cS cc own Ts nL rm A E) (hc : cs ≤ rm.cells) (hs : sl ≤ rm.slots) : Kx (gS g cs sl) cI cS cc own Ts nL rm := ⟨Y.1.1, Y.1.2.1, Y.1.2.2.1, Y.1.2.2.2.1, Y.1.2.2.2.2.1, Y.1.2.2.2.2.2.1, Y.1.2.2.2.2.2.2.1, hc, hs⟩
theorem Kz.r (Y : Kz g cI cS cc own Ts nL rm A E) : g.1.2.2.2.1 = rm := Y.1.2.2.2.2.2.2.1
theorem Kz.c (Y : Kz g cI cS cc own Ts nL rm A E) {n : Nat} (h : n ≤ rm.cells) : n ≤ g.1.2.2.2.1.cells := by rw [Y.r]; exact h
theorem Kz.s (Y : Kz g cI cS cc own Ts nL rm A E) {n : Nat} (h : n ≤ rm.slots) : n ≤ g.1.2.2.2.1.slots := by rw [Y.r]; exact h
theorem Kz.f (Y : Kz g cI cS cc own Ts nL rm A E) {n : Nat} (h : n ≤ rm.frames) : n ≤ g.1.2.2.2.1.frames := by rw [Y.r]; exact h
theorem Kz.l (Y : Kz g cI cS cc own Ts nL rm A E) {n : Nat} (h : n ≤ rm.locals) : n ≤ g.1.2.2.2.1.locals := by rw [Y.r]; exact h
theorem z_new (Y : Kz g cI cS cc own Ts nL rm A E) (hD : va_D A ws) {Cn : String} {T : u_T} {N ci index : Nat} (hin : ∀ w ∈ u_ws Cn T N, w ∈ Ts) (ty0 : Nat → FieldType) (hty : ∀ k, k < N → parseFieldDescriptor (T k).2.2.1 = some (ty0 k)) (hcl : Cond.classLink own index Cn ∈ Ts) (hinst : Cond.instantiable Cn N ∈ Ts) (hini : Cond.initialized Cn ∈ Ts) (hc : vwCl[ci]? = some (Cn, T, N)) {fs : List Value} (hfs : ∀ j, j < N → defaultValue (ty0 j) = vp_V fs j) (hcs : cs + 1 ≤ rm.cells) (hsl : sl + N ≤ rm.slots) (hdg : decode cc pc = .ok (.new index, 3)) (kk : ∀ q : Nat, va_D A (ws ++ [(q, .inr (ci, fs))]) → JW g (cs + 1) (sl + N) nL (ws ++ [(q, .inr (ci, fs))]) (pc + 3) lv (.ref q :: st)) : JW g cs sl nL ws pc lv st := fun H locs ls hP hS hl => by
  have X := Y.1
  have hS : va_S A g.1.2.2.2.2.heap H locs := Eq.mp (congrFun (congrFun Y.2.1 H) locs) hS
  exact va_new X.1 X.2.1 X.2.2.2.2.1 hin ty0 hty X.2.2.2.1 (X.2.2.2.2.1 _ hcl) (X.2.2.2.2.1 _ hinst) (X.2.2.2.2.1 _ hini) X.2.2.2.2.2.1.1 hP hD hS Y.2.2.1 hc hfs (Y.c hcs) (Y.s hsl) hdg (fun q H1 hP1 hD1 hS1 => kk q hD1 H1 locs ls hP1 (Eq.mpr (congrFun (congrFun Y.2.1 H1) locs) hS1) hl)
theorem z_newc (Y : Kz g cI cS cc own Ts nL rm A E) (hD : va_D A (pre ++ [(b, e0)])) (hM : mC g.1.2.1 y wsc rmc g.2.2.2.1 cI cS Ec b e0 As w mc ms) (hEc : eOk Ec) (hE : ∀ (B : Nat → Prop) (U : State), E B U → Ec B U) (hG : GoodIn Ts wsc) (hw : wsc = Cond.code y bytes maxL none :: wsc') (hrc : rmc.cells = mc) (hrs : rmc.slots = ms) (hini : Cond.initialized y.cls ∈ Ts) (hlk : Cond.methodLink own index y ∈ Ts) (hinst : Cond.instanceMethod y ∈ Ts) (hy1 : y.name = "<init>") {n : Nat} (hd : kHd y n) (hR : kRm rmc rm maxL) (hn : As.length = n) (hcs : cs + mc ≤ rm.cells) (hsl : sl + ms ≤ rm.slots) (hsum : (st.map fun v => v.category).sum ≤ 8) (hst : st0 = As.reverse ++ .ref b :: st) (hdg : decode cc pc = .ok (.invokespecial index, 3)) (kk : ∀ ad : Nat → Nat, ad 0 = b → va_D A (pre ++ w ad) → JW g (cs + mc) (sl + ms) nL (pre ++ w ad) (pc + 3) lv st) : JW g cs sl nL (pre ++ [(b, e0)]) pc lv st0 := by
  intro H locs ls hP hS hl
  subst hst
  have X := Y.1
  have hk := X.2.2.2.2.2.1
  have hS : va_S A g.1.2.2.2.2.heap H locs := Eq.mp (congrFun (congrFun Y.2.1 H) locs) hS
  have hlast : (pre ++ [(b, e0)])[pre.length]? = some (b, e0) := by
    rw [List.getElem?_append_right (Nat.le_refl _), Nat.sub_self]
    rfl
  have hP : va_P g.2.2.2.1 vwCl (pre ++ [(b, e0)]) H := hP
  have hFc := va_free (wc := [(b, e0)]) hD hS Y.2.2.1 [pre.length] (by simp)
  have hP0 : va_P g.2.2.2.1 vwCl [(b, e0)] H := fun k x hx => by
    have hz : k = 0 := by
      have := (List.getElem?_eq_some_iff.mp hx).1
      simp at this
      omega
    subst hz
    have hx2 : (b, e0) = x := Option.some.inj hx
    rw [← hx2]
    exact hP pre.length _ hlast
  have hb := (hP pre.length _ hlast).lt
  refine va_callv (va_runI (As := As) (rest := st) (nL := nL) ⟨X.1, X.2.1, X.2.2.1, X.2.2.2.1, X.2.2.2.2.1⟩ (hM H.size) (cwI n X.2.2.2.2.1 hG hw hrc hrs (X.2.2.2.2.1 _ hini) (X.2.2.2.2.1 _ hlk) (X.2.2.2.2.1 _ hinst) hy1 hd ⟨Y.f hR.1, Y.l hR.2⟩) ⟨fun a U f mk q => ⟨q.1, q.2.1, q.2.2.1, q.2.2.2.1.blind, q.2.2.2.2.1, hEc.1 _ _ _ _ _ q.2.2.2.2.2⟩, fun U hU hW => ⟨rfl, by rw [hU], by rw [hU]; exact hP0, hk.warm hW, hb, hE _ _ (Y.2.2.2.2.2 A _ _ U Y.2.2.2.1 hW (fun q h1 h2 => by rw [hU]; exact hS.2.1 q h1 h2) hFc)⟩⟩ rfl hn hl.2.1 rfl (lv_room hsum) hdg ⟨Y.c hcs, Y.s hsl⟩) hS (fun q _ h => hFc q h) hFc (fun ad t H1 locs1 ht hvm h0 hB hz1 hk1 hS1 => ?_)
  obtain ⟨hP1, hD1⟩ := hB
  rw [ht] at hP1
  obtain ⟨hP2, hD2⟩ := g_join hP hD hk1 hFc hP1 hD1
  exact kk ad h0 hD2 H1 locs1 ls hP2 (Eq.mpr (congrFun (congrFun Y.2.1 H1) locs1) hS1) hl
theorem jw_to {ws2 : va_W} (f : ∀ H : Heap, va_P g.2.2.2.1 vwCl ws H → va_P g.2.2.2.1 vwCl ws2 H) (k : JW g cs sl nL ws2 pc lv st) : JW g cs sl nL ws pc lv st := fun H locs ls hP hS hl => k H locs ls (f H hP) hS hl
theorem jw_widen {cs2 sl2 : Nat} (h1 : cs ≤ cs2) (h2 : sl ≤ sl2) (k : JW g cs2 sl2 nL ws pc lv st) : JW g cs sl nL ws pc lv st := fun H locs ls hP hS hl => W.widen (k := cs2) (n := sl2) h1 h2 (k H locs ls hP hS hl)
end KZ

section Y0
variable {cI cS cJ : ClassId} {ad al : Nat → Nat} {C : kS} {p : kS × kS} {A : Nat → Prop}
theorem WC_D3 (h : kInj 132 ad) : va_D (fun _ => True) (WC cI cS ad C) := by
  refine ⟨fun i j p q hp hq e => ?_, fun _ _ _ => trivial⟩
  obtain ⟨a1, a2⟩ := WC_ad hp
  obtain ⟨b1, b2⟩ := WC_ad hq
  exact h i j a1 b1 (by rw [← a2, ← b2]; exact e)
theorem bb_I (h : va_D A (wBB cI cS ad)) : kInj 132 ad ∧ ∀ i : Nat, i < 132 → A (ad i) := by
  refine ⟨fun i j hi hj e => ?_, fun i hi => ?_⟩
  · obtain ⟨e1, h1⟩ := bb_at (cI := cI) (cS := cS) (ad := ad) hi
    obtain ⟨e2, h2⟩ := bb_at (cI := cI) (cS := cS) (ad := ad) hj
    exact h.1 i j _ _ h1 h2 e
  · obtain ⟨e1, h1⟩ := bb_at (cI := cI) (cS := cS) (ad := ad) hi
    exact h.2 i _ h1
theorem lwD_of (h : va_D (fun _ => True) (WCL cI cS cJ ad al p)) : lwD ad al := by
  have l : ∀ k : Nat, k < 132 → ∃ e, (WCL cI cS cJ ad al p)[k]? = some (ad k, e) := fun k hk => ⟨_, at_l (WC_at hk)⟩
  have r : ∀ k : Nat, k < 3 → ∃ e, (WCL cI cS cJ ad al p)[132 + k]? = some (al k, e) := fun k hk => by
    rcases (show k = 0 ∨ k = 1 ∨ k = 2 by omega) with rfl | rfl | rfl
    · exact ⟨_, wcl_0⟩
    · exact ⟨_, wcl_1⟩
    · exact ⟨_, wcl_2⟩
  refine ⟨fun i j hi hj e => ?_, fun i j hi hj e => ?_, fun i j hi hj e => ?_⟩
  · obtain ⟨e1, h1⟩ := l i hi
    obtain ⟨e2, h2⟩ := l j hj
    exact h.1 i j _ _ h1 h2 e
  · obtain ⟨e1, h1⟩ := r i hi
    obtain ⟨e2, h2⟩ := r j hj
    have := h.1 _ _ _ _ h1 h2 e
    omega
  · obtain ⟨e1, h1⟩ := l i hi
    obtain ⟨e2, h2⟩ := r j hj
    have := h.1 _ _ _ _ h1 h2 e
    omega
end Y0
section Y1
variable {g : kG} {cI cS cJ : ClassId} {cc : ByteArray} {own : String} {Ts : List Cond} {nL : Nat} {rm : Room} {pc cs sl : Nat} {lv lv' : List (Option Value)} {st st0 : List Value} {A B : Nat → Prop} {W0 W1 R : va_W} {r : Int32} {LV GV b L : Nat} {xs : Nat → Int32} {ad al : Nat → Nat}
variable {y : MethodName} {wsc wsc' : List Cond} {rmc : Room} {bytes : ByteArray} {maxL index : Nat} {ret : Option FieldType} {As : List Value}
/-- a row of longs is made -/
theorem a_newj (X : Kx (gC g cs sl) cI cS cc own Ts nL rm) (hE : kE g.2.2.2.1 cJ g.1.2.2.2.2) (hA : g.2.2.1 = va_S A g.1.2.2.2.2.heap) (hD : va_D (fun _ => True) W0) (harr : Cond.arrayClass .long ∈ Ts) {n : Int32} {N : Nat} (hn : ¬ n < 0) (hN : n.toNatClampNeg = N) (hbytes : N ≤ 10000) (hcs : cs + 1 ≤ rm.cells) (hsl : sl + N ≤ rm.slots) (hdg : decode cc pc = .ok (.newarray .long, 2)) (kk : ∀ q : Nat, g.1.2.2.2.2.heap.size ≤ q → va_D (fun _ => True) (W0 ++ [(q, .inl (cJ, N, .inr (.inl (fun _ => 0))))]) → JA (gC g (cs + 1) (sl + N)) (W0 ++ [(q, .inl (cJ, N, .inr (.inl (fun _ => 0))))]) nL (pc + 2) lv (.ref q :: st)) : JA (gC g cs sl) W0 nL pc lv (.int n :: st) := fun H locs ls hP hS h => by
  have hP : va_P g.2.2.2.1 vwCl W0 H := hP
  have hS1 : va_S A g.1.2.2.2.2.heap H locs := Eq.mp (congrFun (congrFun hA H) locs) hS
  refine va_newaK (atype := .long) X.1 X.2.1 (X.2.2.2.2.1 _ harr) rfl hdg rfl hn hN (by show N * 8 ≤ _; omega) (by rw [X.2.2.2.2.2.2.1]; exact hcs) (by rw [X.2.2.2.2.2.2.1]; exact hsl) rfl fun H1 cA e1 z1 o1 hAr hNm => ?_
  have hcA : cA = cJ := Option.some.inj (hNm.symm.trans (hE.2 0 (cJ, .long) rfl).2)
  subst hcA
  have hk : ∀ (k : Nat) (x : Nat × va_E), W0[k]? = some x → H1[x.1]? = H[x.1]? := fun k x hx => o1 x.1 ((hP k x hx).lt)
  refine kk H.size hS1.1 (hD.push hP rfl trivial) H1 locs ls ?_ (Eq.mpr (congrFun (congrFun hA H1) locs) ⟨Nat.le_trans hS1.1 (by omega), fun x h1 h2 => (o1 x (Nat.lt_of_lt_of_le h1 hS1.1)).trans (hS1.2.1 x h1 h2), hS1.2.2⟩) h
  show va_P g.2.2.2.1 vwCl (W0 ++ [(H.size, .inl (cA, N, .inr (.inl (fun _ => 0))))]) H1
  refine (hP.kept hk).app (fun k x hx => ?_)
  have hz : k < 1 := (List.getElem?_eq_some_iff.mp hx).1
  have hz0 : k = 0 := by omega
  subst hz0
  cases hx
  exact e1
/-- a static writer of the law's own cells, the class's beside them -/
theorem z_callVL (X : Kx g cI cS cc own Ts nL rm) (hE : kE g.2.2.2.1 cJ g.1.2.2.2.2) (hA : g.2.2.1 = va_S A g.1.2.2.2.2.heap) (hBA : ∀ q, B q → A q) (hRB : ∀ (k : Nat) (x : Nat × va_E), R[k]? = some x → ¬ B x.1) (hM : mVL g.1.2.1 y wsc rmc g.2.2.2.1 cI cS W0 W1 B (kE g.2.2.2.1 cJ) As) (hG : GoodIn Ts (va_wsS own index y wsc)) (hw : wsc = Cond.code y bytes maxL ret :: wsc') (h0 : rmc.cells = 0 ∧ rmc.slots = 0) {n : Nat} (hd : kHd y n) (hR : kRm rmc rm maxL) (hn : As.length = n) (hsum : (st.map fun v => v.category).sum ≤ 8) (hst : st0 = As.reverse ++ st) (hdg : decode cc pc = .ok (.invokestatic index, 3)) (kk : JA g (R ++ W1) nL (pc + 3) lv st) : JA g (R ++ W0) nL pc lv st0 := by
  intro H locs ls hP hS hl
  subst hst
  have hk := X.2.2.2.2.2.1
  have hP : va_P g.2.2.2.1 vwCl (R ++ W0) H := hP
  have hP0 := P_l hP
  have hP1 := P_r hP
  refine va_callv (va_runS (As := As) (rest := st) (nL := nL) ⟨X.1, X.2.1, X.2.2.1, X.2.2.2.1, X.2.2.2.2.1⟩ hM (va_cwS n X.2.2.2.2.1 hG hw h0.1 h0.2 hd (by rw [X.2.2.2.2.2.2.1]; exact hR)) ⟨fun a U f mk q => ⟨q.1, q.2.1, q.2.2.1.blind, q.2.2.2.blind⟩, fun U hU hW => ⟨rfl, by rw [hU]; exact hP1, hk.warm hW, hE.warm hW⟩⟩ rfl hn hl.2.1 rfl (lv_room hsum) hdg ⟨by rw [X.2.2.2.2.2.2.1]; exact X.2.2.2.2.2.2.2.1, by rw [X.2.2.2.2.2.2.1]; exact X.2.2.2.2.2.2.2.2⟩) (Eq.mp (congrFun (congrFun hA H) locs) hS) (fun q _ h => hBA q h) (fun q h => hBA q h) (fun u t H1 locs1 ht hvm hw hB hz hk1 hS1 => ?_)
  have hB1 : va_P g.2.2.2.1 vwCl W1 H1 := by rw [← ht]; exact hB
  exact kk H1 locs1 ls ((hP0.kept (fun k x hx => hk1 x.1 (hP0 k x hx).lt (hRB k x hx))).app hB1) (Eq.mpr (congrFun (congrFun hA H1) locs1) hS1) hl
/-- an act -/
theorem z_callWL (X : Kx g cI cS cc own Ts nL rm) (hE : kE g.2.2.2.1 cJ g.1.2.2.2.2) (hZ : kZ A LV GV g.1.2.2.2.2) (hA : g.2.2.1 = va_S A g.1.2.2.2.2.heap) (hBA : ∀ q, lwA ad al q → A q) (hM : mWL g.1.2.1 y wsc rmc g.2.2.2.1 cI cS W0 W1 (lwA ad al) (fun U => kE g.2.2.2.1 cJ U ∧ kZ (lwA ad al) LV GV U) As r) (hG : GoodIn Ts (va_wsS own index y wsc)) (hw : wsc = Cond.code y bytes maxL ret :: wsc') (h0 : rmc.cells = 0 ∧ rmc.slots = 0) {n : Nat} (hd : kHd y n) (hR : kRm rmc rm maxL) (hn : As.length = n) (hsum : (st.map fun v => v.category).sum ≤ 8) (hst : st0 = As.reverse ++ st) (hdg : decode cc pc = .ok (.invokestatic index, 3)) (kk : JA g W1 nL (pc + 3) lv (.int r :: st)) : JA g W0 nL pc lv st0 := by
  intro H locs ls hP hS hl
  subst hst
  have hk := X.2.2.2.2.2.1
  have hP : va_P g.2.2.2.1 vwCl W0 H := hP
  have hSA : va_S A g.1.2.2.2.2.heap H locs := Eq.mp (congrFun (congrFun hA H) locs) hS
  refine va_calli (va_runS (As := As) (rest := st) (nL := nL) ⟨X.1, X.2.1, X.2.2.1, X.2.2.2.1, X.2.2.2.2.1⟩ hM (va_cwS n X.2.2.2.2.1 hG hw h0.1 h0.2 hd (by rw [X.2.2.2.2.2.2.1]; exact hR)) ⟨fun a U f mk q => ⟨q.1, q.2.1, q.2.2.1.blind, q.2.2.2.1.blind, kZ_mv q.2.2.2.2 (Vm.Alike.refl U.vm) (fun _ _ _ => rfl) (fun _ h => h)⟩, fun U hU hW => ⟨rfl, by rw [hU]; exact hP, hk.warm hW, hE.warm hW, kZ_mv hZ hW.alike (fun q h1 h2 => by rw [hU]; exact hSA.2.1 q h1 h2) (fun q h => hBA q h)⟩⟩ rfl hn hl.2.1 rfl (lv_room hsum) hdg ⟨by rw [X.2.2.2.2.2.2.1]; exact X.2.2.2.2.2.2.2.1, by rw [X.2.2.2.2.2.2.1]; exact X.2.2.2.2.2.2.2.2⟩) hSA (fun q _ h => hBA q h) (fun q h => hBA q h) (fun r' u t H1 locs1 ht hvm hw hB hz hk1 hS1 => ?_)
  have hw : r' = r := hw
  subst hw
  exact kk H1 locs1 ls (by rw [← ht]; exact hB) (Eq.mpr (congrFun (congrFun hA H1) locs1) hS1) hl
/-- the script's int, or what stands for it -/
def eX (b L : Nat) (xs : Nat → Int32) (U : State) : Prop := va_X b L xs U U.heap ∧ b < U.heap.size
theorem z_cell (X : Kx (gC g cs sl) cI cS cc own Ts nL rm) (hA : g.2.2.1 = va_S A g.1.2.2.2.2.heap) (hX : va_X b L xs g.1.2.2.2.2 g.1.2.2.2.2.heap) (hb : b < g.1.2.2.2.2.heap.size) (hbA : ¬ A b) (hM : mAL g.1.2.1 y wsc rmc g.2.2.2.1 cI cS [] (eX b L xs) As r 0 0) (hG : GoodIn Ts (va_wsS own index y wsc)) (hw : wsc = Cond.code y bytes maxL ret :: wsc') (h0 : rmc.cells = 0 ∧ rmc.slots = 0) {n : Nat} (hd : kHd y n) (hR : kRm rmc rm maxL) (hn : As.length = n) (hsum : (st.map fun v => v.category).sum ≤ 8) (hst : st0 = As.reverse ++ st) (hdg : decode cc pc = .ok (.invokestatic index, 3)) (kk : JA (gC g cs sl) W0 nL (pc + 3) lv (.int r :: st)) : JA (gC g cs sl) W0 nL pc lv st0 := by
  intro H locs ls hP hS hl
  subst hst
  have hk := X.2.2.2.2.2.1
  have hP : va_P g.2.2.2.1 vwCl W0 H := hP
  have hSA : va_S A g.1.2.2.2.2.heap H locs := Eq.mp (congrFun (congrFun hA H) locs) hS
  have hHb : H[b]? = g.1.2.2.2.2.heap[b]? := hSA.2.1 b hb hbA
  refine va_calli (va_runS (As := As) (rest := st) (nL := nL) ⟨X.1, X.2.1, X.2.2.1, X.2.2.2.1, X.2.2.2.2.1⟩ hM (va_cwS n X.2.2.2.2.1 hG hw h0.1 h0.2 hd (by rw [X.2.2.2.2.2.2.1]; exact hR)) ⟨fun a U f mk q => ⟨q.1, q.2.1, q.2.2.1.blind, va_X.moved (Vm.Alike.refl U.vm) q.2.2.2.1, q.2.2.2.2⟩, fun U hU hW => ⟨rfl, fun k x h => by simp at h, hk.warm hW, ⟨va_X.moved hW.alike (va_X.kept hX (by rw [hU]; exact hHb)), by rw [hU]; exact Nat.lt_of_lt_of_le hb hSA.1⟩⟩⟩ rfl hn hl.2.1 rfl (lv_room hsum) hdg ⟨by rw [X.2.2.2.2.2.2.1]; exact X.2.2.2.2.2.2.2.1, by rw [X.2.2.2.2.2.2.1]; exact X.2.2.2.2.2.2.2.2⟩) hSA (fun _ _ h => h.elim) (fun _ h => h.elim) (fun r' u t H1 locs1 ht hvm hw hB hz hk1 hS1 => ?_)
  have hw : r' = r := hw
  subst hw
  exact kk H1 locs1 ls (hP.kept (fun k x hx => hk1 x.1 (hP k x hx).lt (fun h => h))) (Eq.mpr (congrFun (congrFun hA H1) locs1) hS1) hl
end Y1
abbrev rm_L_cell : Room := { frames := 0, cells := 0, slots := 0, locals := 0 }
theorem hd_L_cell : kHd yL_cell 2 := by decide +kernel
def cellR (L : Nat) (xs : Nat → Int32) (n : Nat) : Int32 := if n < L then xs n else 40503 * (nI n + 3)
theorem c_L_cell {l : Launch} {D : va_G} {cI cS : ClassId} {b L n : Nat} {xs : Nat → Int32} (hL : L ≤ 260) (hn : n < 100000) : mAL l yL_cell wsL_cell rm_L_cell D cI cS [] (eX b L xs) [.ref b, .int (nI n)] (cellR L xs n) 0 0 := by
  refine mAL.of (by decide) rfl (Nat.le_of_ble_eq_true rfl) (fun g X hE e hA _ hR => ?_)
  obtain ⟨hX, hb⟩ := hE
  have hbA : ¬ g.1.2.2.2.2.heap.size ≤ b := Nat.not_le.mpr hb
  have X := X.gC (cs := 0) (sl := 0) (Nat.zero_le _) (Nat.zero_le _)
  show JA (gC g 0 0) [] 2 0 [some (.ref b), some (.int (nI n))] []
  refine j_iload_n (pc := 0) (i := 1) X dL_cell_0 rfl ?_
  refine j_aload_n (pc := 1) (i := 0) X dL_cell_1 rfl ?_
  intro H locs ls hP hS hl
  refine va_slen X.1 X.2.1 hX hb hbA (Eq.mp (congrFun (congrFun hA H) locs) hS) dL_cell_2 ?_
  revert H locs ls
  show JA (gC g 0 0) [] 2 3 [some (.ref b), some (.int (nI n))] [.int (nI L), .int (nI n)]
  refine j_icmp_ge (pc := 3) (tgt := 12) X dL_cell_3 (by decide) (fun h => ?_) (fun h => ?_)
  · have hnl : ¬ n < L := fun q => by have := (nI_leI (by omega) (by omega)).mp h; omega
    refine j_ldc (pc := 12) (v := 40503) X (List.mem_of_getElem? (i := 1) rfl) dL_cell_12 ?_
    refine j_iload_n (pc := 14) (i := 1) X dL_cell_14 rfl ?_
    refine j_iconst (pc := 15) (v := 3) X dL_cell_15 (by decide) ?_
    refine j_iadd (pc := 16) X dL_cell_16 ?_
    refine j_imul (pc := 17) X dL_cell_17 ?_
    exact a_retAI hR (Nat.le_refl _) (Nat.le_refl _) dL_cell_18 (by unfold cellR; rw [if_neg hnl])
  · have hnl : n < L := Nat.not_le.mp (fun q => h ((nI_leI (by omega) (by omega)).mpr q))
    refine j_aload_n (pc := 6) (i := 0) X dL_cell_6 rfl ?_
    refine j_iload_n (pc := 7) (i := 1) X dL_cell_7 rfl ?_
    intro H locs ls hP hS hl
    refine va_sld X.1 X.2.1 hX hb hbA (Eq.mp (congrFun (congrFun hA H) locs) hS) (vp_in_nI hnl (by omega)) dL_cell_8 ?_
    rw [nI_clamp (by omega)]
    revert H locs ls
    show JA (gC g 0 0) [] 2 9 [some (.ref b), some (.int (nI n))] [.int (xs n)]
    refine j_goto (pc := 9) (tgt := 18) X dL_cell_9 (by decide) ?_
    exact a_retAI hR (Nat.le_refl _) (Nat.le_refl _) dL_cell_18 (by unfold cellR; rw [if_pos hnl])
