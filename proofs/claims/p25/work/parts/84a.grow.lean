/-! ===== walks whose world grows: constructors ===== -/
def gS (g : kG) (cs sl : Nat) : kG := (g.1, g.2.1, g.2.2.1, g.2.2.2.1, (cs, sl), g.2.2.2.2.2)
def kWs (ws : va_W) : kS → va_W := fun _ => ws
abbrev JW (g : kG) (cs sl nL : Nat) (ws : va_W) (pc : Nat) (lv : List (Option Value)) (st : List Value) : Prop := J (gS g cs sl) (kWs ws) nL kC0 pc lv st
/-- a thing that is known of the tables and of cells that nobody here may change -/
def eOk (E : (Nat → Prop) → State → Prop) : Prop := (∀ (B : Nat → Prop) (U : State) (f : JFrame) (mk : MethodId) (a : Array Value), E B U → E B (U.calling f mk a)) ∧ ∀ (A B : Nat → Prop) (s U : State), E A s → s.WarmedH U.vm → (∀ q : Nat, q < s.heap.size → ¬ A q → U.heap[q]? = s.heap[q]?) → (∀ q, B q → A q) → E B U
def eNo : (Nat → Prop) → State → Prop := fun _ _ => True
theorem eNo_ok : eOk eNo := ⟨fun _ _ _ _ _ h => h, fun _ _ _ _ h _ _ _ => h⟩
/-- what a constructor's walk knows -/
def Ky (g : kG) (cI cS : ClassId) (cc : ByteArray) (own : String) (Ts : List Cond) (nL : Nat) (rm : Room) (A : Nat → Prop) (E : (Nat → Prop) → State → Prop) : Prop :=
  Kx (gS g 0 0) cI cS cc own Ts nL rm ∧ g.2.2.1 = va_S A g.1.2.2.2.2.heap ∧ (∀ q : Nat, g.1.2.2.2.2.heap.size ≤ q → A q) ∧ g.2.1.2.2.2.1.name = "<init>" ∧ E A g.1.2.2.2.2 ∧ eOk E
section KG
variable {g : kG} {cI cS : ClassId} {cc : ByteArray} {own : String} {Ts : List Cond} {nL : Nat} {rm : Room} {A : Nat → Prop} {E : (Nat → Prop) → State → Prop} {cs sl pc : Nat} {lv lv' : List (Option Value)} {st st0 : List Value} {ws : va_W}
theorem Ky.x (Y : Ky g cI cS cc own Ts nL rm A E) (hc : cs ≤ rm.cells) (hs : sl ≤ rm.slots) : Kx (gS g cs sl) cI cS cc own Ts nL rm := ⟨Y.1.1, Y.1.2.1, Y.1.2.2.1, Y.1.2.2.2.1, Y.1.2.2.2.2.1, Y.1.2.2.2.2.2.1, Y.1.2.2.2.2.2.2.1, hc, hs⟩
theorem Ky.w (Y : Ky g cI cS cc own Ts nL rm A E) (hD : va_D A ws) : Kw (gS g cs sl) (kWs ws) A := ⟨Y.2.1, fun _ => hD⟩
theorem Ky.r (Y : Ky g cI cS cc own Ts nL rm A E) : g.1.2.2.2.1 = rm := Y.1.2.2.2.2.2.2.1
theorem Ky.c (Y : Ky g cI cS cc own Ts nL rm A E) {n : Nat} (h : n ≤ rm.cells) : n ≤ g.1.2.2.2.1.cells := by rw [Y.r]; exact h
theorem Ky.s (Y : Ky g cI cS cc own Ts nL rm A E) {n : Nat} (h : n ≤ rm.slots) : n ≤ g.1.2.2.2.1.slots := by rw [Y.r]; exact h
theorem Ky.f (Y : Ky g cI cS cc own Ts nL rm A E) {n : Nat} (h : n ≤ rm.frames) : n ≤ g.1.2.2.2.1.frames := by rw [Y.r]; exact h
theorem Ky.l (Y : Ky g cI cS cc own Ts nL rm A E) {n : Nat} (h : n ≤ rm.locals) : n ≤ g.1.2.2.2.1.locals := by rw [Y.r]; exact h
theorem j_objInit (Y : Ky g cI cS cc own Ts nL rm A E) {index b : Nat} (hlk : Cond.methodLink own index objectInit ∈ Ts) (hinst : Cond.instanceMethod objectInit ∈ Ts) (hcode : Cond.code objectInit ⟨#[0xb1]⟩ 1 none ∈ Ts) (hfr : 1 ≤ rm.frames) (hlo : (st.map fun v => v.category).sum + 12 ≤ rm.locals) (hdg : decode cc pc = .ok (.invokespecial index, 3)) (kk : JW g cs sl nL ws (pc + 3) lv st) : JW g cs sl nL ws pc lv (.ref b :: st) := fun H locs ls hP hS hl => by
  have X := Y.1
  refine W.objInit X.1 X.2.1 X.2.2.2.1 (X.2.2.2.2.1 _ hlk) (X.2.2.2.2.1 _ hinst) (X.2.2.2.2.1 _ hcode) rfl (by show ls.size = _; rw [X.2.2.1]; exact hl.2.1) rfl hdg (Y.f hfr) (Y.l (by show 2 * 0 + _ + 12 ≤ _; omega)) ?_
  refine W.eq (g2 := F0 (gS g cs sl).2.1.1 (pc + 3) ls st) rfl ?_
  exact kk H locs ls hP hS hl
theorem j_new (Y : Ky g cI cS cc own Ts nL rm A E) (hD : va_D A ws) {Cn : String} {T : u_T} {N ci index : Nat} (hin : ∀ w ∈ u_ws Cn T N, w ∈ Ts) (ty0 : Nat → FieldType) (hty : ∀ k, k < N → parseFieldDescriptor (T k).2.2.1 = some (ty0 k)) (hcl : Cond.classLink own index Cn ∈ Ts) (hinst : Cond.instantiable Cn N ∈ Ts) (hini : Cond.initialized Cn ∈ Ts) (hc : vwCl[ci]? = some (Cn, T, N)) {fs : List Value} (hfs : ∀ j, j < N → defaultValue (ty0 j) = vp_V fs j) (hcs : cs + 1 ≤ rm.cells) (hsl : sl + N ≤ rm.slots) (hdg : decode cc pc = .ok (.new index, 3)) (kk : ∀ q : Nat, va_D A (ws ++ [(q, .inr (ci, fs))]) → JW g (cs + 1) (sl + N) nL (ws ++ [(q, .inr (ci, fs))]) (pc + 3) lv (.ref q :: st)) : JW g cs sl nL ws pc lv st := fun H locs ls hP hS hl => by
  have X := Y.1
  have hS : va_S A g.1.2.2.2.2.heap H locs := Eq.mp (congrFun (congrFun Y.2.1 H) locs) hS
  exact va_new X.1 X.2.1 X.2.2.2.2.1 hin ty0 hty X.2.2.2.1 (X.2.2.2.2.1 _ hcl) (X.2.2.2.2.1 _ hinst) (X.2.2.2.2.1 _ hini) X.2.2.2.2.2.1.1 hP hD hS Y.2.2.1 hc hfs (Y.c hcs) (Y.s hsl) hdg (fun q H1 hP1 hD1 hS1 => kk q hD1 H1 locs ls hP1 (Eq.mpr (congrFun (congrFun Y.2.1 H1) locs) hS1) hl)
theorem j_putF (Y : Ky g cI cS cc own Ts nL rm A E) (hD : va_D A ws) {Cn : String} {T : u_T} {N ci index : Nat} (hin : ∀ w ∈ u_ws Cn T N, w ∈ Ts) (ty0 : Nat → FieldType) (hty : ∀ k, k < N → parseFieldDescriptor (T k).2.2.1 = some (ty0 k)) (hnm : ∀ a, a < N → ∀ b, b < N → a ≠ b → (T a).2.1 ≠ (T b).2.1) {b q0 : Nat} {fs : List Value} (he : ws[q0]? = some (b, .inr (ci, fs))) (hc : vwCl[ci]? = some (Cn, T, N)) (k : Nat) (hk : k < N) (hlk : Cond.fieldLink own index (T k).1 (T k).2.1 (T k).2.2.1 ∈ Ts) (hfin : (T k).2.2.2 = true) (hdecl : (T k).1 = own) {ty : FieldType} {v : Value} (hd : parseFieldDescriptor (T k).2.2.1 = some ty) (hn : narrow ty v = v) (hfit : fits ty v = true) (hl : k < fs.length) (hdg : decode cc pc = .ok (.putfield index, 3)) (kk : va_D A (ws.set q0 (b, .inr (ci, fs.set k v))) → JW g cs sl nL (ws.set q0 (b, .inr (ci, fs.set k v))) (pc + 3) lv st) : JW g cs sl nL ws pc lv (v :: .ref b :: st) := fun H locs ls hP hS h => by
  have X := Y.1
  have hS : va_S A g.1.2.2.2.2.heap H locs := Eq.mp (congrFun (congrFun Y.2.1 H) locs) hS
  exact va_putF (ty := ty) X.1 X.2.1 X.2.2.2.2.1 hin ty0 hty hnm X.2.2.2.1 X.2.2.2.2.2.1.1 hP hD hS q0 he hc k hk (X.2.2.2.2.1 _ hlk) (fun _ h9 => h9) hfin Y.2.2.2.1 hdecl hd hn hfit hl hdg (fun H1 locs1 hP1 hD1 hS1 => kk hD1 H1 locs1 ls hP1 (Eq.mpr (congrFun (congrFun Y.2.1 H1) locs1) hS1) h)
theorem j_put0 (Y : Ky g cI cS cc own Ts nL rm A E) (hD : va_D A ws) (hcs : cs ≤ rm.cells) (hsl : sl ≤ rm.slots) {Cn : String} {T : u_T} {N ci index : Nat} (hin : ∀ w ∈ u_ws Cn T N, w ∈ Ts) (ty0 : Nat → FieldType) (hty : ∀ k, k < N → parseFieldDescriptor (T k).2.2.1 = some (ty0 k)) (hnm : ∀ a, a < N → ∀ b, b < N → a ≠ b → (T a).2.1 ≠ (T b).2.1) {b q0 : Nat} {fs : List Value} (he : ws[q0]? = some (b, .inr (ci, fs))) (hc : vwCl[ci]? = some (Cn, T, N)) (k : Nat) (hk : k < N) (hlk : Cond.fieldLink own index (T k).1 (T k).2.1 (T k).2.2.1 ∈ Ts) (hfin : (T k).2.2.2 = false) {v : Int32} (hd : parseFieldDescriptor (T k).2.2.1 = some .int) (hl : k < fs.length) (hdg : decode cc pc = .ok (.putfield index, 3)) (kk : va_D A (ws.set q0 (b, .inr (ci, fs.set k (.int v)))) → JW g cs sl nL (ws.set q0 (b, .inr (ci, fs.set k (.int v)))) (pc + 3) lv st) : JW g cs sl nL ws pc lv (.int v :: .ref b :: st) := fun H locs ls hP hS h => by
  have X := Y.1
  have hS : va_S A g.1.2.2.2.2.heap H locs := Eq.mp (congrFun (congrFun Y.2.1 H) locs) hS
  exact va_put (ty := .int) X.1 X.2.1 X.2.2.2.2.1 hin ty0 hty hnm X.2.2.2.1 X.2.2.2.2.2.1.1 hP hD hS q0 he hc k hk (X.2.2.2.2.1 _ hlk) (fun _ h9 => h9) hfin hd rfl rfl hl hdg (fun H1 locs1 hP1 hD1 hS1 => kk hD1 H1 locs1 ls hP1 (Eq.mpr (congrFun (congrFun Y.2.1 H1) locs1) hS1) h)
theorem kTy_I {D : va_G} {cA : ClassId} {s : State} (h : va_K D vwCl (kTy cI cS ++ [(cA, .int)]) s) : cA = cI := by
  have h1 : s.vm.findClass _ = some cI := (h.2 0 (cI, .int) rfl).2
  have h2 : s.vm.findClass _ = some cA := (h.2 2 (cA, .int) rfl).2
  exact Option.some.inj (h2.symm.trans h1)
theorem kTy_S {D : va_G} {cA : ClassId} {s : State} (h : va_K D vwCl (kTy cI cS ++ [(cA, .object RX5)]) s) : cA = cS := by
  obtain ⟨_, _, _, _, _, h1⟩ := (h.2 1 (cS, .object RX5) rfl).2
  obtain ⟨_, _, _, _, _, h2⟩ := (h.2 2 (cA, .object RX5) rfl).2
  exact Option.some.inj (h2.symm.trans h1)
theorem j_newa (Y : Ky g cI cS cc own Ts nL rm A E) (hD : va_D A ws) (harr : Cond.arrayClass .int ∈ Ts) {n : Int32} {N : Nat} (hn : ¬ n < 0) (hN : n.toNatClampNeg = N) (hbytes : N ≤ 10000) (hcs : cs + 1 ≤ rm.cells) (hsl : sl + N ≤ rm.slots) (hdg : decode cc pc = .ok (.newarray .int, 2)) (kk : ∀ q : Nat, va_D A (ws ++ [(q, .inl (cI, N, .inl (fun _ => 0)))]) → JW g (cs + 1) (sl + N) nL (ws ++ [(q, .inl (cI, N, .inl (fun _ => 0)))]) (pc + 2) lv (.ref q :: st)) : JW g cs sl nL ws pc lv (.int n :: st) := fun H locs ls hP hS hl => by
  have X := Y.1
  have hS : va_S A g.1.2.2.2.2.heap H locs := Eq.mp (congrFun (congrFun Y.2.1 H) locs) hS
  refine va_newa (atype := .int) (a0 := (N, .inl (fun _ => 0))) X.1 X.2.1 (X.2.2.2.2.1 _ harr) rfl X.2.2.2.2.2.1.1 hP hD hS Y.2.2.1 (fun _ => rfl) hn hN (by show N * 4 ≤ _; omega) (Y.c hcs) (Y.s hsl) hdg (fun q cA H1 hK1 hP1 hD1 hS1 => ?_)
  have e := kTy_I hK1
  subst e
  exact kk q hD1 H1 locs ls hP1 (Eq.mpr (congrFun (congrFun Y.2.1 H1) locs) hS1) hl
theorem j_newq (Y : Ky g cI cS cc own Ts nL rm A E) (hD : va_D A ws) {index : Nat} (hcl : Cond.classLink own index RX5 ∈ Ts) (hao : va_AO RX5 g.1.2.2.2.2) {n : Int32} {N : Nat} (hn : ¬ n < 0) (hN : n.toNatClampNeg = N) (hbytes : N ≤ 10000) (hcs : cs + 1 ≤ rm.cells) (hsl : sl + N ≤ rm.slots) (hdg : decode cc pc = .ok (.anewarray index, 3)) (kk : ∀ q : Nat, va_D A (ws ++ [(q, .inl (cS, N, .inr (.inr (.inr (.inr (fun _ => none))))))]) → JW g (cs + 1) (sl + N) nL (ws ++ [(q, .inl (cS, N, .inr (.inr (.inr (.inr (fun _ => none))))))]) (pc + 3) lv (.ref q :: st)) : JW g cs sl nL ws pc lv (.int n :: st) := fun H locs ls hP hS hl => by
  have X := Y.1
  have hS : va_S A g.1.2.2.2.2.heap H locs := Eq.mp (congrFun (congrFun Y.2.1 H) locs) hS
  refine va_newq X.1 X.2.1 X.2.2.2.1 (X.2.2.2.2.1 _ hcl) hao X.2.2.2.2.2.1.1 hP hD hS Y.2.2.1 hn hN (by omega) (Y.c hcs) (Y.s hsl) hdg (fun q cA H1 hK1 hP1 hD1 hS1 => ?_)
  have e := kTy_S hK1
  subst e
  exact kk q hD1 H1 locs ls hP1 (Eq.mpr (congrFun (congrFun Y.2.1 H1) locs) hS1) hl
end KG
/-- behind a call on the last cell: the cells ahead of it, and what came -/
theorem g_join {A0 : Nat → Prop} {D : va_G} {pre w1 : va_W} {q : Nat} {e0 : va_E} {H H1 : Heap} (hP : va_P D vwCl (pre ++ [(q, e0)]) H) (hD : va_D A0 (pre ++ [(q, e0)])) (hk : ∀ x : Nat, x < H.size → ¬ va_A [(q, e0)] H.size x → H1[x]? = H[x]?) (hF : ∀ x, va_A [(q, e0)] H.size x → A0 x) (hP1 : va_P D vwCl w1 H1) (hD1 : va_D (va_A [(q, e0)] H.size) w1) : va_P D vwCl (pre ++ w1) H1 ∧ va_D A0 (pre ++ w1) := by
  have hin : ∀ (k : Nat) (x : Nat × va_E), pre[k]? = some x → (pre ++ [(q, e0)])[k]? = some x := fun k x hx => by
    rw [List.getElem?_append_left (List.getElem?_eq_some_iff.mp hx).1]
    exact hx
  have hlast : (pre ++ [(q, e0)])[pre.length]? = some (q, e0) := by
    rw [List.getElem?_append_right (Nat.le_refl _), Nat.sub_self]
    rfl
  have apart : ∀ (k : Nat) (x : Nat × va_E), pre[k]? = some x → x.1 < H.size ∧ ¬ va_A [(q, e0)] H.size x.1 := by
    intro k x hx
    have hl := (hP k x (hin k x hx)).lt
    refine ⟨hl, fun h => ?_⟩
    rcases h with ⟨k2, e, h⟩ | h
    · have hz : k2 = 0 := by
        have := (List.getElem?_eq_some_iff.mp h).1
        simp at this
        omega
      subst hz
      have h3 : (q, e0) = (x.1, e) := Option.some.inj h
      have h4 := hD.1 k pre.length x (q, e0) (hin k x hx) hlast (by rw [h3])
      have := (List.getElem?_eq_some_iff.mp hx).1
      omega
    · omega
  refine ⟨va_P.app (fun k x hx => ?_) hP1, va_D.app ⟨fun i j x y hx hy hxy => hD.1 i j x y (hin i x hx) (hin j y hy) hxy, fun k x hx => hD.2 k x (hin k x hx)⟩ (hD1.weaken (fun k x _ h => hF x.1 h)) (fun i j x y hx hy hxy => ?_)⟩
  · obtain ⟨g1, g2⟩ := apart k x hx
    exact (hP k x (hin k x hx)).kept (hk x.1 g1 g2)
  · exact (apart i x hx).2 (by rw [hxy]; exact hD1.2 j y hy)
/-- a constructor's contract: the new object's cell becomes a world -/
def mC (l : Launch) (y : MethodName) (wsy : List Cond) (rm : Room) (D : va_G) (cI cS : ClassId) (E : (Nat → Prop) → State → Prop) (h0 : Nat) (e0 : va_E) (As : List Value) (w : (Nat → Nat) → va_W) (mc ms : Nat) : Prop :=
  ∀ sz : Nat, Met l y wsy rm (va_Pc (.ref h0 :: As) (fun U => U.heap.size = sz ∧ va_P D vwCl [(h0, e0)] U.heap ∧ kK D cI cS U ∧ h0 < sz ∧ E (va_A [(h0, e0)] sz) U)) (va_Qv (fun ad : Nat → Nat => ad 0 = h0) (fun ad t => va_P D vwCl (w ad) t.heap ∧ va_D (va_A [(h0, e0)] sz) (w ad)) (va_A [(h0, e0)] sz)) mc ms (va_A [(h0, e0)] sz)
section KH
variable {g : kG} {cI cS : ClassId} {cc : ByteArray} {own : String} {Ts : List Cond} {nL : Nat} {rm : Room} {A : Nat → Prop} {E Ec : (Nat → Prop) → State → Prop} {cs sl pc : Nat} {lv lv' : List (Option Value)} {st st0 : List Value} {pre : va_W}
variable {y : MethodName} {wsc wsc' : List Cond} {rmc : Room} {bytes : ByteArray} {maxL index mc ms : Nat} {As : List Value} {b : Nat} {e0 : va_E} {w : (Nat → Nat) → va_W}
theorem j_newc (Y : Ky g cI cS cc own Ts nL rm A E) (hD : va_D A (pre ++ [(b, e0)])) (hM : mC g.1.2.1 y wsc rmc g.2.2.2.1 cI cS Ec b e0 As w mc ms) (hEc : eOk Ec) (hE : ∀ (B : Nat → Prop) (U : State), E B U → Ec B U) (hG : GoodIn Ts wsc) (hw : wsc = Cond.code y bytes maxL none :: wsc') (hrc : rmc.cells = mc) (hrs : rmc.slots = ms) (hini : Cond.initialized y.cls ∈ Ts) (hlk : Cond.methodLink own index y ∈ Ts) (hinst : Cond.instanceMethod y ∈ Ts) (hy1 : y.name = "<init>") {n : Nat} (hd : kHd y n) (hR : kRm rmc rm maxL) (hn : As.length = n) (hcs : cs + mc ≤ rm.cells) (hsl : sl + ms ≤ rm.slots) (hsum : (st.map fun v => v.category).sum ≤ 8) (hst : st0 = As.reverse ++ .ref b :: st) (hdg : decode cc pc = .ok (.invokespecial index, 3)) (kk : ∀ ad : Nat → Nat, ad 0 = b → va_D A (pre ++ w ad) → JW g (cs + mc) (sl + ms) nL (pre ++ w ad) (pc + 3) lv st) : JW g cs sl nL (pre ++ [(b, e0)]) pc lv st0 := by
  intro H locs ls hP hS hl
  subst hst
  have X := Y.1
  have hk := X.2.2.2.2.2.1
  have hS : va_S A g.1.2.2.2.2.heap H locs := Eq.mp (congrFun (congrFun Y.2.1 H) locs) hS
  have hlast : (pre ++ [(b, e0)])[pre.length]? = some (b, e0) := by
    rw [List.getElem?_append_right (Nat.le_refl _), Nat.sub_self]
    rfl
  have hP : va_P g.2.2.2.1 vwCl (pre ++ [(b, e0)]) H := hP
  have hFc := va_free (wc := [(b, e0)]) hD hS Y.2.2.1 [pre.length] (by simp)
  have hP0 : va_P g.2.2.2.1 vwCl [(b, e0)] H := fun k x hx => by
    have hz : k = 0 := by
      have := (List.getElem?_eq_some_iff.mp hx).1
      simp at this
      omega
    subst hz
    have hx2 : (b, e0) = x := Option.some.inj hx
    rw [← hx2]
    exact hP pre.length _ hlast
  have hb := (hP pre.length _ hlast).lt
  refine va_callv (va_runI (As := As) (rest := st) (nL := nL) ⟨X.1, X.2.1, X.2.2.1, X.2.2.2.1, X.2.2.2.2.1⟩ (hM H.size) (cwI n X.2.2.2.2.1 hG hw hrc hrs (X.2.2.2.2.1 _ hini) (X.2.2.2.2.1 _ hlk) (X.2.2.2.2.1 _ hinst) hy1 hd ⟨Y.f hR.1, Y.l hR.2⟩) ⟨fun a U f mk q => ⟨q.1, q.2.1, q.2.2.1, q.2.2.2.1.blind, q.2.2.2.2.1, hEc.1 _ _ _ _ _ q.2.2.2.2.2⟩, fun U hU hW => ⟨rfl, by rw [hU], by rw [hU]; exact hP0, hk.warm hW, hb, hE _ _ (Y.2.2.2.2.2.2 A _ _ U Y.2.2.2.2.1 hW (fun q h1 h2 => by rw [hU]; exact hS.2.1 q h1 h2) hFc)⟩⟩ rfl hn hl.2.1 rfl (lv_room hsum) hdg ⟨Y.c hcs, Y.s hsl⟩) hS (fun q _ h => hFc q h) hFc (fun ad t H1 locs1 ht hvm h0 hB hz1 hk1 hS1 => ?_)
  obtain ⟨hP1, hD1⟩ := hB
  rw [ht] at hP1
  obtain ⟨hP2, hD2⟩ := g_join hP hD hk1 hFc hP1 hD1
  exact kk ad h0 hD2 H1 locs1 ls hP2 (Eq.mpr (congrFun (congrFun Y.2.1 H1) locs1) hS1) hl
theorem mC.of {l : Launch} {D : va_G} {h0 : Nat} {wsy' : List Cond} (hy : plainName y.cls = true) (hw : wsc = Cond.code y cc nL none :: wsy') (hc0 : As.all (fun w => decide (w.category = 1)) = true) (hn : As.length + 1 ≤ nL) (hy1 : y.name = "<init>") (hok : eOk E) (body : ∀ (g : kG) (A : Nat → Prop), g.1.2.1 = l → g.2.2.2.1 = D → Ky g cI cS cc y.cls wsc nL rm A E → va_D A [(h0, e0)] → (∀ (pc : Nat) (lv : List (Option Value)) (ad : Nat → Nat) (ws : va_W), decode cc pc = .ok (.return_, 1) → ad 0 = h0 → ws = w ad → va_D A ws → JW g mc ms nL ws pc lv []) → JW g 0 0 nL [(h0, e0)] 0 (some (.ref h0) :: As.map some ++ List.replicate (nL - (As.length + 1)) none) []) : mC l y wsc rm D cI cS E h0 e0 As w mc ms := by
  intro sz
  refine Met.ofW (cc := cc) (maxL := nL) (ret := none) hy hw ?_
  intro p e s m args below meth c s₁ B hml hv
  obtain ⟨rfl, hsz, hP, hK, hlt, hE⟩ := hv
  subst hsz
  have hts := atoms_spec (ws := wsc) B.pre
  have hin : meth.name = y.name := (name_of_methodNamed B.named B.method).1
  have hD : va_D (va_A [(h0, e0)] s.heap.size) [(h0, e0)] := ⟨fun i j x z hx hz _ => by
    have h1 := (List.getElem?_eq_some_iff.mp hx).1
    have h2 := (List.getElem?_eq_some_iff.mp hz).1
    simp at h1 h2
    omega, fun k x hx => va_A.in hx⟩
  rw [lg_entry_eq]
  have hb := body ((p, l, e, rm, s), (m, (Value.ref h0 :: As).toArray, below, meth, c), va_S (va_A [(h0, e0)] s.heap.size) s.heap, D, (0, 0), MQ below (va_Qv (fun ad : Nat → Nat => ad 0 = h0) (fun ad t => va_P D vwCl (w ad) t.heap ∧ va_D (va_A [(h0, e0)] s.heap.size) (w ad)) (va_A [(h0, e0)] s.heap.size)) (Value.ref h0 :: As).toArray s mc ms (va_A [(h0, e0)] s.heap.size)) (va_A [(h0, e0)] s.heap.size) rfl rfl ⟨⟨B.exec, B.bytes, hml, findClass_of_methodNamed B.named, hts, hK, rfl, Nat.zero_le _, Nat.zero_le _⟩, rfl, fun q h => Or.inr h, hin.trans hy1, hE, hok⟩ hD (fun pc lv ad ws hdg h1 h2 hDw H locs ls hPw hS hl => by
    subst h2
    have hS : va_S (va_A [(h0, e0)] s.heap.size) s.heap H locs := hS
    have hPw : va_P D vwCl (w ad) H := hPw
    show W p l e rm s m (Value.ref h0 :: As).toArray below meth c H locs mc ms (MQ below (va_Qv (fun ad : Nat → Nat => ad 0 = h0) (fun ad t => va_P D vwCl (w ad) t.heap ∧ va_D (va_A [(h0, e0)] s.heap.size) (w ad)) (va_A [(h0, e0)] s.heap.size)) (Value.ref h0 :: As).toArray s mc ms (va_A [(h0, e0)] s.heap.size)) (F0 m pc ls [])
    exact W.vret B.exec B.bytes B.returns (fun t ht _ => ⟨⟨ad, rfl, h1, by rw [ht]; exact hPw, hDw⟩, va_S.F hS ht⟩) hS.2.2 hdg B.notSynchronized)
  exact hb s.heap [] _ hP va_S.rf (kO.entry (vs := .ref h0 :: As) (fun w h => by
    rcases List.mem_cons.mp h with h | h
    · rw [h]; rfl
    · exact of_decide_eq_true (List.all_eq_true.mp hc0 w h)) hn)
end KH
