/-! ===== Row(int[]): a copy of an array that nobody here may change ===== -/
def sT (cI : ClassId) (t n : Nat) (f : Nat → Int32) (A : Nat → Prop) (U : State) : Prop := ∃ cell : Cell, U.heap[t]? = some cell ∧ cell.cls = cI ∧ cell.slots.size = n ∧ (∀ j : Nat, j < n → cell.slots[j]? = some (.int (f j))) ∧ cell.vm ≠ .unknown ∧ (∀ k, cell.vm ≠ .statics k) ∧ ¬ A t
def nCl (U : State) : Prop := va_Nw (.castable "[I" "java/lang/Cloneable") U
def eArr (cI : ClassId) (t n : Nat) (f : Nat → Int32) : (Nat → Prop) → State → Prop := fun A U => sT cI t n f A U ∧ nCl U
theorem sT.to {cI : ClassId} {t n : Nat} {f : Nat → Int32} {A B : Nat → Prop} {s U : State} (h : sT cI t n f A s) (hk : ∀ q : Nat, q < s.heap.size → ¬ A q → U.heap[q]? = s.heap[q]?) (hB : ∀ q, B q → A q) : sT cI t n f B U := by
  obtain ⟨cell, h1, h2, h3, h4, h5, h6, h7⟩ := h
  exact ⟨cell, by rw [hk t (Array.getElem?_eq_some_iff.mp h1).1 h7]; exact h1, h2, h3, h4, h5, h6, fun q => h7 (hB t q)⟩
theorem eArr_ok (cI : ClassId) (t n : Nat) (f : Nat → Int32) : eOk (eArr cI t n f) := ⟨fun B U fr mk a h => ⟨h.1, h.2.same rfl rfl⟩, fun A B s U h hW hk hB => ⟨h.1.to hk hB, h.2.warmC hW⟩⟩
section KI
variable {g : kG} {cI cS : ClassId} {cc : ByteArray} {own : String} {Ts : List Cond} {nL : Nat} {rm : Room} {A : Nat → Prop} {E : (Nat → Prop) → State → Prop} {cs sl pc : Nat} {lv : List (Option Value)} {st : List Value} {ws : va_W}
theorem j_castA (Y : Ky g cI cS cc own Ts nL rm A E) {index q0 b : Nat} {x : vp_A} (hlk : Cond.classLink own index "[I" ∈ Ts) (ha : ws[q0]? = some (b, .inl (cI, x))) (hdg : decode cc pc = .ok (.checkcast index, 3)) (kk : JW g cs sl nL ws (pc + 3) lv (.ref b :: st)) : JW g cs sl nL ws pc lv (.ref b :: st) := fun H locs ls hP hS hl =>
  va_castA Y.1.1 Y.1.2.1 Y.1.2.2.2.1 (Y.1.2.2.2.2.1 _ hlk) hP q0 ha (va_nm_int (Y.1.2.2.2.2.2.1.1.2 0 (cI, .int) rfl).2) hdg (kk H locs ls hP hS hl)
theorem j_clone (Y : Ky g cI cS cc own Ts nL rm A E) (hD : va_D A ws) {t n index : Nat} {f : Nat → Int32} (hT : sT cI t n f A g.1.2.2.2.2) (hca : nCl g.1.2.2.2.2) (hlk : Cond.methodLink own index ⟨"[I", "clone", "()Ljava/lang/Object;"⟩ ∈ Ts) (hsame : Cond.sameMethod "[I" "java/lang/Object" "clone" "()Ljava/lang/Object;" ∈ Ts) (hnat : Cond.native ⟨"java/lang/Object", "clone", "()Ljava/lang/Object;"⟩ ∈ Ts) (hinst : Cond.instanceMethod ⟨"java/lang/Object", "clone", "()Ljava/lang/Object;"⟩ ∈ Ts) (hsel : Cond.selects "[I" ⟨"[I", "clone", "()Ljava/lang/Object;"⟩ ⟨"java/lang/Object", "clone", "()Ljava/lang/Object;"⟩ ∈ Ts) (hfr : 1 ≤ rm.frames) (hlo : (st.map fun v => v.category).sum + 14 ≤ rm.locals) (hcs : cs + 1 ≤ rm.cells) (hsl : sl + n ≤ rm.slots) (hdg : decode cc pc = .ok (.invokevirtual index, 3)) (kk : ∀ q : Nat, va_D A (ws ++ [(q, .inl (cI, n, .inl f))]) → JW g (cs + 1) (sl + n) nL (ws ++ [(q, .inl (cI, n, .inl f))]) (pc + 3) lv (.ref q :: st)) : JW g cs sl nL ws pc lv (.ref t :: st) := by
  intro H locs ls hP hS hl
  have X := Y.1
  have hS : va_S A g.1.2.2.2.2.heap H locs := Eq.mp (congrFun (congrFun Y.2.1 H) locs) hS
  have hP : va_P g.2.2.2.1 vwCl ws H := hP
  obtain ⟨cell, c1, c2, c3, c4, c5, c6, c7⟩ := hT
  have hK := X.2.2.2.2.2.1.1
  have hml : g.2.1.2.2.2.2.maxLocals = nL := X.2.2.1
  have hcode : g.2.1.2.2.2.2.code = cc := X.2.1
  have hnm : g.1.2.2.2.2.vm.findClass "[I" = some cI := va_nm_int (hK.2 0 (cI, .int) rfl).2
  obtain ⟨c0, t0, f1, f2, f3⟩ := Cond.castable_spec (va_Nw.use (A := g.2.1.2.1) rfl hca)
  cases hnm.symm.trans f1
  have hHc : H[t]? = some cell := by rw [hS.2.1 t (Array.getElem?_eq_some_iff.mp c1).1 c7]; exact c1
  intro T hTH XS
  have hTc : T.heap[t]? = some cell := by rw [hTH]; exact hHc
  obtain ⟨-, kA, hkA, comp, hkind⟩ := State.isArrayOf_alike XS.warmed.alike ((hK.2 0 (cI, .int) rfl).1 0 (fun _ => .null))
  obtain ⟨-, kS', hkS, compS, hkindS⟩ := (hK.2 0 (cI, .int) rfl).1 0 (fun _ => .null)
  obtain ⟨vm', X', hst⟩ := XS.cloneArray X.1 X.2.2.2.1 (X.2.2.2.2.1 _ hlk) (X.2.2.2.2.1 _ hsame) (X.2.2.2.2.1 _ hnat) (X.2.2.2.2.1 _ hinst) (X.2.2.2.2.1 _ hsel) hTc c6 c5 (by rw [c2]; exact hnm) f2 (by rw [c2]; exact f3)
    (fun i v hv => by
      have hi : i < n := by
        rw [← c3]
        exact (Array.getElem?_eq_some_iff.mp hv).1
      rw [c4 i hi] at hv
      cases hv
      rw [c2]
      have hk' : T.vm.classes[cI]? = some kA := hkA
      simp [State.fitsSlot, State.slotType?, hk', hkind, fits])
    (g := F0 g.2.1.1 pc ls (.ref t :: st)) rfl (hl.2.1.trans hml.symm) rfl (by show decode g.2.1.2.2.2.2.code pc = _; rw [hcode]; exact hdg) (Y.f hfr) (Y.l (by show 2 * 0 + _ + 14 ≤ _; omega)) (Y.c hcs) (Y.s (by rw [c3]; exact hsl)) (hloader := by rw [c2]; exact Vm.clonesLoader_of_array hkS hkindS)
  have hcell : ({ cls := cell.cls, slots := cell.slots } : Cell) = vp_cell cI (n, .inl f) := by
    rw [c2]
    have hs : cell.slots = (vp_cell cI (n, .inl f)).slots := by
      apply Array.ext_getElem?
      intro i
      rw [vp_cell_i]
      by_cases hi : i < n
      · rw [c4 i hi, arrV_read _ _ hi]
      · rw [Array.getElem?_eq_none (by rw [c3]; omega), Array.getElem?_eq_none (by rw [arrV_size]; omega)]
    rw [hs]
    rfl
  rw [hcell, c3] at X'
  generalize hH1 : H.push (vp_cell cI (n, .inl f)) = H1
  have z1 : H1.size = H.size + 1 := by rw [← hH1, Array.size_push]
  have e1 : H1[H.size]? = some (vp_cell cI (n, .inl f)) := by rw [← hH1, Array.getElem?_push_size]
  have o1 : ∀ q : Nat, q < H.size → H1[q]? = H[q]? := fun q hq => by rw [← hH1, Array.getElem?_push, if_neg (Nat.ne_of_lt hq)]
  have hk : ∀ (k : Nat) (y : Nat × va_E), ws[k]? = some y → H1[y.1]? = H[y.1]? := fun k y hy => o1 y.1 ((hP k y hy).lt)
  have hP1 : va_P g.2.2.2.1 vwCl (ws ++ [(H.size, .inl (cI, n, .inl f))]) H1 := (hP.kept hk).app (fun k y hy => by
    have hz : k < 1 := (List.getElem?_eq_some_iff.mp hy).1
    rw [show k = 0 by omega] at hy
    cases hy
    exact e1)
  obtain ⟨t2, a1, b1⟩ := kk H.size (hD.push hP rfl (Y.2.2.1 _ hS.1)) H1 locs ls hP1 (Eq.mpr (congrFun (congrFun Y.2.1 H1) locs) ⟨Nat.le_trans hS.1 (by omega), fun y h1 h2 => (o1 y (Nat.lt_of_lt_of_le h1 hS.1)).trans (hS.2.1 y h1 h2), hS.2.2⟩) hl ((T.setVm vm').pushCell (vp_cell cI (n, .inl f))) (by rw [← hH1, ← hTH]; rfl) X'
  refine ⟨t2, hst t2 ?_, b1⟩
  rw [hcell, hTH]
  exact a1
end KI
abbrev rmi_X3_ (n : Nat) : Room := { frames := 1, cells := 1, slots := n, locals := 16 }
theorem iwi_X3_init__X3 : ∀ w ∈ u_ws RX3 TX3 1, w ∈ wsX3_init_ := by decide +kernel
theorem c_X3_init_ (l : Launch) (D : va_G) (cI cS : ClassId) (h0 t n : Nat) (f : Nat → Int32) : mC l yX3_init_ wsX3_init_ (rmi_X3_ n) D cI cS (eArr cI t n f) h0 (.inr (3, [.null])) [.ref t] (wRow cI n f) 1 n := by
  refine mC.of (cc := cX3_init_) (nL := 2) (by decide) rfl rfl (Nat.le_of_ble_eq_true rfl) rfl (eArr_ok cI t n f) (fun g A hl1 hD1 Y hD hR => ?_)
  have X := Y.x (cs := 0) (sl := 0) (Nat.zero_le _) (Nat.zero_le _)
  have hE := Y.2.2.2.2.1
  refine j_aload_n (pc := 0) X dX3_init__0 rfl ?_
  refine j_objInit (pc := 1) Y (by decide +kernel) (by decide +kernel) (by decide +kernel) (Nat.le_of_ble_eq_true rfl) (Nat.le_of_ble_eq_true rfl) dX3_init__1 ?_
  refine j_aload_n (pc := 4) X dX3_init__4 rfl ?_
  refine j_aload_n (pc := 5) X dX3_init__5 rfl ?_
  refine j_clone (pc := 6) Y hD hE.1 hE.2 (by decide +kernel) (by decide +kernel) (by decide +kernel) (by decide +kernel) (by decide +kernel) (Nat.le_of_ble_eq_true rfl) (Nat.le_of_ble_eq_true rfl) (Nat.le_of_ble_eq_true rfl) (by show 0 + n ≤ n; omega) dX3_init__6 (fun q hD => ?_)
  refine j_castA (pc := 9) (q0 := 1) Y (by decide +kernel) rfl dX3_init__9 ?_
  refine j_putF (pc := 12) (fs := [.null]) (ci := 3) (ty := .array .int) Y hD iwi_X3_init__X3 tyX3 tyX3_ok nmX3 (q0 := 0) rfl rfl 0 (by decide) (by decide +kernel) rfl rfl (tyX3_ok 0 (by decide)) rfl rfl (by decide) dX3_init__12 (fun hD => ?_)
  have e : (0 : Nat) + n = n := Nat.zero_add n
  rw [e]
  exact hR 15 _ (fun i => if i = 0 then h0 else q) _ dX3_init__15 rfl rfl hD
