/-! THE CLAIM OUT OF ONE WALK OF THE LAW'S BODY (starting text: the kit's skeleton) -/
def R_law : String := "BlackBarsLaw"
def lw_P (b : Addr) (xs : List Int32) (args : Array Value) (s : State) : Prop := args = #[.ref b] ∧ s.IntsAt b xs ∧ xs.length ≤ 2048 ∧ (Jvm.Cond.and given_1 narrow_1).before args s = true
def lw_Q (_ : Array Value) (s : State) (o : Outcome) (t : State) : Prop := o = .returned (some (.int 1)) ∧ Framed s o t [] 600000 7302250
def lw_Z (below : List Frame) (a : Array Value) (s : State) : State → Prop := fun t => ∃ o, t.status = .running ∧ Ended t below o ∧ lw_Q a s o t
/-- the law's own end, with 1 on the stack, nothing written that was there before, its room as the claim has it -/
theorem lw_ret {p : Program} {l : Launch} {e : Env} {s : State} {m : MethodId} {below : List Frame} {meth : Method} {c : Code} {b : Nat} (hx : p.tables.exec = Jvm.exec) (hb : c.code = code) (hr : meth.sig.returnType = ret) (hlocks : meth.locks = false) {pc : Nat} {H : Heap} {ls : Array Slot} (hdg : decode code pc = .ok (.ireturn, 1)) : W p l e room_1 s m #[Value.ref b] below meth c H [] 600000 7302250 (lw_Z below #[Value.ref b] s) (F0 m pc ls [.int 1]) := by
  intro T hT X
  obtain ⟨fs, hret, hrun, hended, hW, hframe⟩ := X.leave (v := some (.int 1)) (hlocks := hlocks) (fun h => by rw [hr] at h; cases h)
  have hmeth' : T.vm.method? m = some meth := X.method'
  refine ⟨T.setFrames fs, ?_, .returned (some (.int 1)), hrun, hended, rfl, ⟨_, rfl⟩, hW, hframe⟩
  jvm_step X.here [X.here.top, hx, hb, hdg, hmeth', hr, ret, narrow_b1]
  (try refine ⟨rfl, ?_⟩); (try refine ⟨rfl, ?_⟩)
  first | (intro acts; rw [hret _ acts rfl rfl rfl]) | rw [hret _ _ rfl rfl rfl]
  exact Steps.refl _
/-- what holds at the law's entry: the machine, the code, the tables' words (any of lw_tbl by 'hts w (by decide +kernel)'), the script of L ints xs at the cell b, what the Statement gives of the start (any of its parts by flat_of_before) -/
def lw_At (p : Program) (s : State) (m : MethodId) (meth : Method) (c : Code) (b L : Nat) (xs : Nat → Int32) : Prop :=
  p.tables.exec = Jvm.exec ∧ c.code = code ∧ meth.sig.returnType = ret ∧ c.maxLocals = 4 ∧ s.vm.findClass R_law = some m.cls ∧ (∀ w ∈ lw_tbl, w.before #[Value.ref b] s = true) ∧ va_X b L xs s s.heap ∧ b < s.heap.size ∧ meth.locks = false ∧ (Jvm.Cond.and given_1 narrow_1).before #[Value.ref b] s = true
/-! ===== the law's walk: two worlds beside each other ===== -/
section LP
variable {D : va_G} {cl : List vw_C} {w1 w2 : va_W} {H H1 : Heap}
theorem P_l (h : va_P D cl (w1 ++ w2) H) : va_P D cl w1 H := fun k q hq => h k q (by rw [List.getElem?_append_left (List.getElem?_eq_some_iff.mp hq).1]; exact hq)
theorem P_r (h : va_P D cl (w1 ++ w2) H) : va_P D cl w2 H := fun k q hq => h (w1.length + k) q (by rw [List.getElem?_append_right (Nat.le_add_right _ _), Nat.add_sub_cancel_left]; exact hq)
end LP
def lwI (A : Nat → Prop) (ad am : Nat → Nat) : Prop := kInj 132 ad ∧ kInj 11 am ∧ (∀ i j : Nat, i < 132 → j < 11 → ad i ≠ am j) ∧ (∀ i : Nat, i < 132 → A (ad i)) ∧ ∀ j : Nat, j < 11 → A (am j)
theorem lwI.a {A : Nat → Prop} {ad am : Nat → Nat} (h : lwI A ad am) {q : Nat} (hq : kAd 132 ad q) : A q := by
  obtain ⟨k, hk, e⟩ := hq
  rw [e]
  exact h.2.2.2.1 k hk
theorem lwI.m {A : Nat → Prop} {ad am : Nat → Nat} (h : lwI A ad am) {q : Nat} (hq : kAd 11 am q) : A q := by
  obtain ⟨k, hk, e⟩ := hq
  rw [e]
  exact h.2.2.2.2 k hk
section LW0
variable {D : va_G} {cI cS : ClassId} {A : Nat → Prop} {ad am : Nat → Nat} {C M : kS} {H H1 : Heap}
theorem WM_addr {k : Nat} {x : Nat × va_E} (hx : (WM cI am M)[k]? = some x) : k < 11 ∧ x.1 = am k := by
  have hi : k < 11 := by
    have h1 := (List.getElem?_eq_some_iff.mp hx).1
    simpa [WM] using h1
  rw [WM_at hi] at hx
  cases hx
  exact ⟨hi, rfl⟩
theorem WC_addr {k : Nat} {x : Nat × va_E} (hx : (WC cI cS ad C)[k]? = some x) : k < 132 ∧ x.1 = ad k := by
  have hi : k < 132 := by
    have h1 := (List.getElem?_eq_some_iff.mp hx).1
    simpa [WC] using h1
  rw [WC_at hi] at hx
  cases hx
  exact ⟨hi, rfl⟩
theorem l_keepM (hI : lwI A ad am) (hP : va_P D vwCl (WM cI am M) H) (hk : ∀ q : Nat, q < H.size → ¬ kAd 132 ad q → H1[q]? = H[q]?) : va_P D vwCl (WM cI am M) H1 :=
  hP.kept (fun k x hx => hk x.1 (hP k x hx).lt (fun ⟨i, hi, e⟩ => hI.2.2.1 i k hi (WM_addr hx).1 (e.symm.trans (WM_addr hx).2)))
theorem l_keepC (hI : lwI A ad am) (hP : va_P D vwCl (WC cI cS ad C) H) (hk : ∀ q : Nat, q < H.size → ¬ kAd 11 am q → H1[q]? = H[q]?) : va_P D vwCl (WC cI cS ad C) H1 :=
  hP.kept (fun k x hx => hk x.1 (hP k x hx).lt (fun ⟨i, hi, e⟩ => hI.2.2.1 k i (WC_addr hx).1 hi ((WC_addr hx).2.symm.trans e)))
theorem kZ_to {LV GV : Nat} {A B : Nat → Prop} {s U : State} (h : kZ A LV GV s) (hW : s.vm.Alike U.vm) (hk : ∀ q : Nat, q < s.heap.size → ¬ A q → U.heap[q]? = s.heap[q]?) (hB : ∀ q, B q → A q) : kZ B LV GV U := ⟨⟨(va_Z.moved hW (va_Z.kept h.1.1 hk)).narrow hB, (va_T.moved hW (va_T.kept h.1.2 hk)).narrow hB⟩, (va_Z.moved hW (va_Z.kept h.2.1 hk)).narrow hB, (va_T.moved hW (va_T.kept h.2.2 hk)).narrow hB⟩
end LW0
section LW1
variable {g : kG} {cI cS : ClassId} {cc : ByteArray} {own : String} {Ts : List Cond} {nL : Nat} {rm : Room} {A : Nat → Prop} {ad am : Nat → Nat} {C C' M M' : kS} {pc : Nat} {lv lv' : List (Option Value)} {st st0 : List Value} {LV GV : Nat}
variable {y : MethodName} {wsc wsc' : List Cond} {rmc : Room} {bytes : ByteArray} {maxL index : Nat} {ret : Option FieldType} {As : List Value} {r : Int32}
abbrev J2 (g : kG) (cI cS : ClassId) (ad am : Nat → Nat) (nL : Nat) (C M : kS) (pc : Nat) (lv : List (Option Value)) (st : List Value) : Prop := J g (kWs (WC cI cS ad C ++ WM cI am M)) nL kC0 pc lv st
theorem l_cI (X : Kx g cI cS cc own Ts nL rm) (hM : mI g.1.2.1 y wsc rmc g.2.2.2.1 cI cS (WC cI cS ad) C (.ref (ad 0) :: As) r) (hG : GoodIn Ts (wsV own index RX8 y wsc)) (hw : wsc = Cond.code y bytes maxL ret :: wsc') (h0 : rmc.cells = 0 ∧ rmc.slots = 0) {n : Nat} (hC : y.cls = RX8) (hd : kHd y n) (hR : kRm rmc rm maxL) (hn : As.length = n) (hsum : (st.map fun v => v.category).sum ≤ 8) (hst : st0 = As.reverse ++ .ref (ad 0) :: st) (hdg : decode cc pc = .ok (.invokevirtual index, 3)) (kk : J2 g cI cS ad am nL C M (pc + 3) lv (.int r :: st)) : J2 g cI cS ad am nL C M pc lv st0 := by
  intro H locs ls hP hS hl
  subst hst
  have hk := X.2.2.2.2.2.1
  have hP0 : va_P g.2.2.2.1 vwCl (WC cI cS ad C ++ WM cI am M) H := hP
  have hPC := P_l hP0
  refine vp_callSi (W.runV (As := As) (rest := st) (nL := nL) ⟨X.1, X.2.1, X.2.2.1, X.2.2.2.1, X.2.2.2.2.1⟩ hM (cwV n X.2.2.2.2.1 hG hw h0.1 h0.2 ⟨hC, hd⟩ (by rw [X.2.2.2.2.2.2.1]; exact hR)) ⟨fun a U f mk q => ⟨q.1, q.2.1, q.2.2.blind⟩, ?_, fun U hU hW => ⟨rfl, by rw [hU]; exact hPC, hk.warm hW⟩⟩ rfl hn hl.2.1 rfl (lv_room hsum) hdg ⟨by rw [X.2.2.2.2.2.2.1]; exact X.2.2.2.2.2.2.2.1, by rw [X.2.2.2.2.2.2.1]; exact X.2.2.2.2.2.2.2.2⟩) (fun r' hr' => ?_)
  · obtain ⟨cell, a1, a2, a3⟩ := va_recv hk.1 hPC (ci := 8) rfl (wc8 kd_0)
    exact ⟨cell, a1, a2, a3⟩
  · subst hr'
    exact kk H locs ls hP hS hl
theorem l_cW (X : Kx g cI cS cc own Ts nL rm) (hA : g.2.2.1 = va_S A g.1.2.2.2.2.heap) (hI : lwI A ad am) (hM : mW g.1.2.1 y wsc rmc g.2.2.2.1 cI cS (WC cI cS ad) (kAd 132 ad) C (.ref (ad 0) :: As) r C') (hG : GoodIn Ts (wsV own index RX8 y wsc)) (hw : wsc = Cond.code y bytes maxL ret :: wsc') (h0 : rmc.cells = 0 ∧ rmc.slots = 0) {n : Nat} (hC : y.cls = RX8) (hd : kHd y n) (hR : kRm rmc rm maxL) (hn : As.length = n) (hsum : (st.map fun v => v.category).sum ≤ 8) (hst : st0 = As.reverse ++ .ref (ad 0) :: st) (hdg : decode cc pc = .ok (.invokevirtual index, 3)) (kk : J2 g cI cS ad am nL C' M (pc + 3) lv (.int r :: st)) : J2 g cI cS ad am nL C M pc lv st0 := by
  intro H locs ls hP hS hl
  subst hst
  have hk := X.2.2.2.2.2.1
  have hP0 : va_P g.2.2.2.1 vwCl (WC cI cS ad C ++ WM cI am M) H := hP
  have hPC := P_l hP0
  have hPM := P_r hP0
  refine va_calli (va_runV (As := As) (rest := st) (nL := nL) ⟨X.1, X.2.1, X.2.2.1, X.2.2.2.1, X.2.2.2.2.1⟩ hM (cwV n X.2.2.2.2.1 hG hw h0.1 h0.2 ⟨hC, hd⟩ (by rw [X.2.2.2.2.2.2.1]; exact hR)) ⟨fun a U f mk q => ⟨q.1, q.2.1, q.2.2.blind⟩, ?_, fun U hU hW => ⟨rfl, by rw [hU]; exact hPC, hk.warm hW⟩⟩ rfl hn hl.2.1 rfl (lv_room hsum) hdg ⟨by rw [X.2.2.2.2.2.2.1]; exact X.2.2.2.2.2.2.2.1, by rw [X.2.2.2.2.2.2.1]; exact X.2.2.2.2.2.2.2.2⟩) (Eq.mp (congrFun (congrFun hA H) locs) hS) (fun _ _ h => hI.a h) (fun _ h => hI.a h) (fun r' u t H1 locs1 ht hvm hw hB hz hk1 hS1 => ?_)
  · obtain ⟨cell, a1, a2, a3⟩ := va_recv hk.1 hPC (ci := 8) rfl (wc8 kd_0)
    exact ⟨cell, a1, a2, a3⟩
  · have hw : r' = r := hw
    subst hw
    have hB1 : va_P g.2.2.2.1 vwCl (WC cI cS ad C') H1 := by rw [← ht]; exact hB
    exact kk H1 locs1 ls (hB1.app (l_keepM hI hPM hk1)) (Eq.mpr (congrFun (congrFun hA H1) locs1) hS1) hl
theorem l_cE (X : Kx g cI cS cc own Ts nL rm) (hA : g.2.2.1 = va_S A g.1.2.2.2.2.heap) (hI : lwI A ad am) (hZ : kZ A LV GV g.1.2.2.2.2) (hM : mWE g.1.2.1 y wsc rmc g.2.2.2.1 cI cS (WC cI cS ad) (kAd 132 ad) (kZ (kAd 132 ad) LV GV) C (.ref (ad 0) :: As) r C') (hG : GoodIn Ts (wsV own index RX8 y wsc)) (hw : wsc = Cond.code y bytes maxL ret :: wsc') (h0 : rmc.cells = 0 ∧ rmc.slots = 0) {n : Nat} (hC : y.cls = RX8) (hd : kHd y n) (hR : kRm rmc rm maxL) (hn : As.length = n) (hsum : (st.map fun v => v.category).sum ≤ 8) (hst : st0 = As.reverse ++ .ref (ad 0) :: st) (hdg : decode cc pc = .ok (.invokevirtual index, 3)) (kk : J2 g cI cS ad am nL C' M (pc + 3) lv (.int r :: st)) : J2 g cI cS ad am nL C M pc lv st0 := by
  intro H locs ls hP hS hl
  subst hst
  have hk := X.2.2.2.2.2.1
  have hP0 : va_P g.2.2.2.1 vwCl (WC cI cS ad C ++ WM cI am M) H := hP
  have hPC := P_l hP0
  have hPM := P_r hP0
  have hSA : va_S A g.1.2.2.2.2.heap H locs := Eq.mp (congrFun (congrFun hA H) locs) hS
  refine va_calli (va_runV (As := As) (rest := st) (nL := nL) ⟨X.1, X.2.1, X.2.2.1, X.2.2.2.1, X.2.2.2.2.1⟩ hM (cwV n X.2.2.2.2.1 hG hw h0.1 h0.2 ⟨hC, hd⟩ (by rw [X.2.2.2.2.2.2.1]; exact hR)) ⟨fun a U f mk q => ⟨q.1, q.2.1, q.2.2.1.blind, kZ_to q.2.2.2 (Vm.Alike.refl U.vm) (fun _ _ _ => rfl) (fun _ h => h)⟩, ?_, fun U hU hW => ⟨rfl, by rw [hU]; exact hPC, hk.warm hW, kZ_to hZ hW.alike (fun q h1 h2 => by rw [hU]; exact hSA.2.1 q h1 h2) (fun _ h => hI.a h)⟩⟩ rfl hn hl.2.1 rfl (lv_room hsum) hdg ⟨by rw [X.2.2.2.2.2.2.1]; exact X.2.2.2.2.2.2.2.1, by rw [X.2.2.2.2.2.2.1]; exact X.2.2.2.2.2.2.2.2⟩) hSA (fun _ _ h => hI.a h) (fun _ h => hI.a h) (fun r' u t H1 locs1 ht hvm hw hB hz hk1 hS1 => ?_)
  · obtain ⟨cell, a1, a2, a3⟩ := va_recv hk.1 hPC (ci := 8) rfl (wc8 kd_0)
    exact ⟨cell, a1, a2, a3⟩
  · have hw : r' = r := hw
    subst hw
    have hB1 : va_P g.2.2.2.1 vwCl (WC cI cS ad C') H1 := by rw [← ht]; exact hB
    exact kk H1 locs1 ls (hB1.app (l_keepM hI hPM hk1)) (Eq.mpr (congrFun (congrFun hA H1) locs1) hS1) hl
theorem l_mW (X : Kx g cI cS cc own Ts nL rm) (hA : g.2.2.1 = va_S A g.1.2.2.2.2.heap) (hI : lwI A ad am) (hM : mW g.1.2.1 y wsc rmc g.2.2.2.1 cI cS (WM cI am) (kAd 11 am) M (.ref (am 0) :: As) r M') (hG : GoodIn Ts (wsV own index RX9 y wsc)) (hw : wsc = Cond.code y bytes maxL ret :: wsc') (h0 : rmc.cells = 0 ∧ rmc.slots = 0) {n : Nat} (hC : y.cls = RX9) (hd : kHd y n) (hR : kRm rmc rm maxL) (hn : As.length = n) (hsum : (st.map fun v => v.category).sum ≤ 8) (hst : st0 = As.reverse ++ .ref (am 0) :: st) (hdg : decode cc pc = .ok (.invokevirtual index, 3)) (kk : J2 g cI cS ad am nL C M' (pc + 3) lv (.int r :: st)) : J2 g cI cS ad am nL C M pc lv st0 := by
  intro H locs ls hP hS hl
  subst hst
  have hk := X.2.2.2.2.2.1
  have hP0 : va_P g.2.2.2.1 vwCl (WC cI cS ad C ++ WM cI am M) H := hP
  have hPC := P_l hP0
  have hPM := P_r hP0
  refine va_calli (va_runV (As := As) (rest := st) (nL := nL) ⟨X.1, X.2.1, X.2.2.1, X.2.2.2.1, X.2.2.2.2.1⟩ hM (cwV n X.2.2.2.2.1 hG hw h0.1 h0.2 ⟨hC, hd⟩ (by rw [X.2.2.2.2.2.2.1]; exact hR)) ⟨fun a U f mk q => ⟨q.1, q.2.1, q.2.2.blind⟩, ?_, fun U hU hW => ⟨rfl, by rw [hU]; exact hPM, hk.warm hW⟩⟩ rfl hn hl.2.1 rfl (lv_room hsum) hdg ⟨by rw [X.2.2.2.2.2.2.1]; exact X.2.2.2.2.2.2.2.1, by rw [X.2.2.2.2.2.2.1]; exact X.2.2.2.2.2.2.2.2⟩) (Eq.mp (congrFun (congrFun hA H) locs) hS) (fun _ _ h => hI.m h) (fun _ h => hI.m h) (fun r' u t H1 locs1 ht hvm hw hB hz hk1 hS1 => ?_)
  · obtain ⟨cell, a1, a2, a3⟩ := va_recv hk.1 hPM (ci := 9) rfl wm0
    exact ⟨cell, a1, a2, a3⟩
  · have hw : r' = r := hw
    subst hw
    have hB1 : va_P g.2.2.2.1 vwCl (WM cI am M') H1 := by rw [← ht]; exact hB
    exact kk H1 locs1 ls ((l_keepC hI hPC hk1).app hB1) (Eq.mpr (congrFun (congrFun hA H1) locs1) hS1) hl
end LW1
/-- what the law's loop stands on -/
def Lx (g : kG) (cI cS : ClassId) (A : Nat → Prop) (ad am : Nat → Nat) (LV GV b L : Nat) (xs : Nat → Int32) : Prop :=
  Kx g cI cS cL_law RL wsL_law 4 room_1 ∧ g.2.2.1 = va_S A g.1.2.2.2.2.heap ∧ lwI A ad am ∧ kZ A LV GV g.1.2.2.2.2 ∧ va_X b L xs g.1.2.2.2.2 g.1.2.2.2.2.heap ∧ b < g.1.2.2.2.2.heap.size ∧ (¬ A b) ∧ ∀ (ws : va_W) (lv : List (Option Value)), J g (kWs ws) 4 kC0 689 lv [.int 1]
abbrev LJ (g : kG) (cI cS : ClassId) (ad am : Nat → Nat) (b : Nat) (C M : kS) (pc i : Nat) (st : List Value) : Prop := J2 g cI cS ad am 4 C M pc [some (.ref b), some (.ref (ad 0)), some (.ref (am 0)), some (.int (nI (4 * i)))] st
section LW2
variable {g : kG} {cI cS : ClassId} {A : Nat → Prop} {ad am : Nat → Nat} {LV GV b L : Nat} {xs : Nat → Int32} {C M : kS} {pc i j : Nat} {st : List Value}
theorem l_sld (Y : Lx g cI cS A ad am LV GV b L xs) (hL : L ≤ 2048) {k : Nat} (hk : k < L) (hdg : decode cL_law pc = .ok (.iaload, 1)) (kk : LJ g cI cS ad am b C M (pc + 1) i (.int (xs k) :: st)) : LJ g cI cS ad am b C M pc i (.int (nI k) :: .ref b :: st) := by
  obtain ⟨X, hA, hI, hZ, hX, hb, hbA, -⟩ := Y
  intro H locs ls hP hS hl
  exact va_sld X.1 X.2.1 hX hb hbA (Eq.mp (congrFun (congrFun hA H) locs) hS) (vp_in_nI hk (by omega)) hdg (by rw [nI_clamp (by omega)]; exact kk H locs ls hP hS hl)
theorem l_slen (Y : Lx g cI cS A ad am LV GV b L xs) (hdg : decode cL_law pc = .ok (.arraylength, 1)) (kk : LJ g cI cS ad am b C M (pc + 1) i (.int (nI L) :: st)) : LJ g cI cS ad am b C M pc i (.ref b :: st) := by
  obtain ⟨X, hA, hI, hZ, hX, hb, hbA, -⟩ := Y
  intro H locs ls hP hS hl
  exact va_slen X.1 X.2.1 hX hb hbA (Eq.mp (congrFun (congrFun hA H) locs) hS) hdg (kk H locs ls hP hS hl)
theorem l_arg (Y : Lx g cI cS A ad am LV GV b L xs) (hL : L ≤ 2048) (j : Nat) {jj : Int} (hij : 4 * i + j < L) (hjj : Int32.ofInt jj = nI j) (d0 : decode cL_law pc = .ok (.aload_n 0, 1)) (d1 : decode cL_law (pc + 1) = .ok (.iload_n 3, 1)) (d2 : decode cL_law (pc + 2) = .ok (.iconst jj, 1)) (d3 : decode cL_law (pc + 3) = .ok (.iadd, 1)) (d4 : decode cL_law (pc + 4) = .ok (.iaload, 1)) (kk : LJ g cI cS ad am b C M (pc + 5) i (.int (xs (4 * i + j)) :: st)) : LJ g cI cS ad am b C M pc i st := by
  have X := Y.1
  refine j_aload_n (pc := pc) (i := 0) X d0 rfl ?_
  refine j_iload_n (pc := pc + 1) (i := 3) X d1 rfl ?_
  refine j_iconst (pc := pc + 2) (v := nI j) X d2 hjj ?_
  refine j_iadd (pc := pc + 3) X d3 ?_
  rw [nI_add]
  exact l_sld (pc := pc + 4) Y hL hij d4 kk
end LW2
