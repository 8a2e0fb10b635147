/-! ===== longs, and the law's own cells: the numbers g, the widths x, the words t (each word fits an int: it is kept as one), one or two rows that a method makes ===== -/
/-- a walk over a world that does not depend on the state's function -/
abbrev JA (g : kG) (W0 : va_W) (nL : Nat) (pc : Nat) (lv : List (Option Value)) (st : List Value) : Prop := J g (fun _ => W0) nL kC0 pc lv st
/-- the array class of longs is known -/
def kE (D : va_G) (cJ : ClassId) (U : State) : Prop := va_K D vwCl [(cJ, .long)] U
theorem kE.warm {D : va_G} {cJ : ClassId} {s U : State} (hW : s.WarmedH U.vm) (h : kE D cJ s) : kE D cJ U := va_K.moved hW.alike h
theorem kE.blind {D : va_G} {cJ : ClassId} {U : State} {f : JFrame} {mk : MethodId} {a : Array Value} (h : kE D cJ U) : kE D cJ (U.calling f mk a) := va_K.moved (Vm.Alike.refl U.vm) h
section LJ0
variable {g : kG} {cI cS cJ : ClassId} {cc : ByteArray} {own : String} {Ts : List Cond} {nL : Nat} {rm : Room} {Wf : kS → va_W} {C C' : kS} {pc : Nat} {lv lv' : List (Option Value)} {st : List Value} {A : Nat → Prop}
theorem j_ldc (X : Kx g cI cS cc own Ts nL rm) {index : Nat} {v : Int32} (hlk : Cond.constant own index v ∈ Ts) (hdg : decode cc pc = .ok (.ldc index, 2)) (kk : J g Wf nL C (pc + 2) lv (.int v :: st)) : J g Wf nL C pc lv st := fun H locs ls hP hS h => lv_ldc X.1 X.2.1 X.2.2.2.1 (X.2.2.2.2.1 _ hlk) hdg (kk H locs ls hP hS h)
theorem j_ldc2 (X : Kx g cI cS cc own Ts nL rm) {index : Nat} {v : Int64} (hlk : Cond.constantLong own index v ∈ Ts) (hdg : decode cc pc = .ok (.ldc2_w index, 3)) (kk : J g Wf nL C (pc + 3) lv (.long v :: st)) : J g Wf nL C pc lv st := fun H locs ls hP hS h => lv_ldc2 X.1 X.2.1 X.2.2.2.1 (X.2.2.2.2.1 _ hlk) hdg (kk H locs ls hP hS h)
theorem j_lconst (X : Kx g cI cS cc own Ts nL rm) {n : Fin 2} {v : Int64} (hdg : decode cc pc = .ok (.lconst n, 1)) (hv : Int64.ofNat (n : Nat) = v) (k : J g Wf nL C (pc + 1) lv (.long v :: st)) : J g Wf nL C pc lv st := fun H locs ls hP hS h => lv_lconst X.1 X.2.1 hdg hv (k H locs ls hP hS h)
theorem j_lload_n (X : Kx g cI cS cc own Ts nL rm) {i : Fin 4} {x : Int64} (hdg : decode cc pc = .ok (.lload_n i, 1)) (hl : lv[(i : Nat)]? = some (some (.long x))) (k : J g Wf nL C (pc + 1) lv (.long x :: st)) : J g Wf nL C pc lv st := fun H locs ls hP hS h => lv_lload_n X.1 X.2.1 hdg rfl (h.at hl) (k H locs ls hP hS h)
theorem j_lload (X : Kx g cI cS cc own Ts nL rm) {i : Nat} {x : Int64} (hdg : decode cc pc = .ok (.lload i, 2)) (hl : lv[i]? = some (some (.long x))) (k : J g Wf nL C (pc + 2) lv (.long x :: st)) : J g Wf nL C pc lv st := fun H locs ls hP hS h => lv_lload X.1 X.2.1 hdg (h.at hl) (k H locs ls hP hS h)
theorem j_lstore_n (X : Kx g cI cS cc own Ts nL rm) {i : Fin 4} {x : Int64} (hdg : decode cc pc = .ok (.lstore_n i, 1)) (hi : (i : Nat) + 1 < nL) (hl : (lv.set (i : Nat) (some (.long x))).set ((i : Nat) + 1) none = lv') (k : J g Wf nL C (pc + 1) lv' st) (hnl : kNL lv (i : Nat) = true := by rfl) : J g Wf nL C pc lv (.long x :: st) := fun H locs ls hP hS h => lv_lstore_n X.1 X.2.1 hdg rfl h.has hi rfl (fun ls' h' => k H locs ls' hP hS (hl ▸ h.set2 hi h' hnl))
theorem j_lstore (X : Kx g cI cS cc own Ts nL rm) {i : Nat} {x : Int64} (hdg : decode cc pc = .ok (.lstore i, 2)) (hi : i + 1 < nL) (hl : (lv.set i (some (.long x))).set (i + 1) none = lv') (k : J g Wf nL C (pc + 2) lv' st) (hnl : kNL lv i = true := by rfl) : J g Wf nL C pc lv (.long x :: st) := fun H locs ls hP hS h => lv_lstore X.1 X.2.1 hdg h.has hi rfl (fun ls' h' => k H locs ls' hP hS (hl ▸ h.set2 hi h' hnl))
theorem j_astore (X : Kx g cI cS cc own Ts nL rm) {i : Nat} {x : Nat} (hdg : decode cc pc = .ok (.astore i, 2)) (hi : i < nL) (hl : lv.set i (some (.ref x)) = lv') (k : J g Wf nL C (pc + 2) lv' st) (hnl : kNL lv i = true := by rfl) : J g Wf nL C pc lv (.ref x :: st) := fun H locs ls hP hS h => lv_astore X.1 X.2.1 hdg h.has hi rfl (fun ls' h' => k H locs ls' hP hS (hl ▸ h.set hi rfl h' hnl))
theorem j_ineg (X : Kx g cI cS cc own Ts nL rm) {x : Int32} (hdg : decode cc pc = .ok (.ineg, 1)) (k : J g Wf nL C (pc + 1) lv (.int (-x) :: st)) : J g Wf nL C pc lv (.int x :: st) := fun H locs ls hP hS h => lv_ineg X.1 X.2.1 hdg (k H locs ls hP hS h)
theorem j_ixor (X : Kx g cI cS cc own Ts nL rm) {x y : Int32} (hdg : decode cc pc = .ok (.ixor, 1)) (k : J g Wf nL C (pc + 1) lv (.int (x ^^^ y) :: st)) : J g Wf nL C pc lv (.int y :: .int x :: st) := fun H locs ls hP hS h => lv_ixor X.1 X.2.1 hdg (k H locs ls hP hS h)
theorem j_land (X : Kx g cI cS cc own Ts nL rm) {x y : Int64} (hdg : decode cc pc = .ok (.land, 1)) (k : J g Wf nL C (pc + 1) lv (.long (x &&& y) :: st)) : J g Wf nL C pc lv (.long y :: .long x :: st) := fun H locs ls hP hS h => lv_land X.1 X.2.1 hdg (k H locs ls hP hS h)
theorem j_lor (X : Kx g cI cS cc own Ts nL rm) {x y : Int64} (hdg : decode cc pc = .ok (.lor, 1)) (k : J g Wf nL C (pc + 1) lv (.long (x ||| y) :: st)) : J g Wf nL C pc lv (.long y :: .long x :: st) := fun H locs ls hP hS h => lv_lor X.1 X.2.1 hdg (k H locs ls hP hS h)
theorem j_lshl (X : Kx g cI cS cc own Ts nL rm) {x : Int64} {y : Int32} (hdg : decode cc pc = .ok (.lshl, 1)) (k : J g Wf nL C (pc + 1) lv (.long (x <<< (y.toInt64 &&& 63)) :: st)) : J g Wf nL C pc lv (.int y :: .long x :: st) := fun H locs ls hP hS h => lv_lshl X.1 X.2.1 hdg rfl (k H locs ls hP hS h)
theorem j_lshr (X : Kx g cI cS cc own Ts nL rm) {x : Int64} {y : Int32} (hdg : decode cc pc = .ok (.lshr, 1)) (k : J g Wf nL C (pc + 1) lv (.long (x >>> (y.toInt64 &&& 63)) :: st)) : J g Wf nL C pc lv (.int y :: .long x :: st) := fun H locs ls hP hS h => lv_lshr X.1 X.2.1 hdg rfl (k H locs ls hP hS h)
theorem j_lcmp (X : Kx g cI cS cc own Ts nL rm) {x y : Int64} (hdg : decode cc pc = .ok (.lcmp, 1)) (k : J g Wf nL C (pc + 1) lv (.int (lg_cmp x y) :: st)) : J g Wf nL C pc lv (.long y :: .long x :: st) := fun H locs ls hP hS h => W.lcmp X.1 X.2.1 hdg (k H locs ls hP hS h)
theorem j_i2l (X : Kx g cI cS cc own Ts nL rm) {x : Int32} (hdg : decode cc pc = .ok (.i2l, 1)) (k : J g Wf nL C (pc + 1) lv (.long x.toInt64 :: st)) : J g Wf nL C pc lv (.int x :: st) := fun H locs ls hP hS h => lv_i2l X.1 X.2.1 hdg rfl (k H locs ls hP hS h)
theorem j_l2i (X : Kx g cI cS cc own Ts nL rm) {x : Int64} (hdg : decode cc pc = .ok (.l2i, 1)) (k : J g Wf nL C (pc + 1) lv (.int x.toInt32 :: st)) : J g Wf nL C pc lv (.long x :: st) := fun H locs ls hP hS h => lv_l2i X.1 X.2.1 hdg rfl (k H locs ls hP hS h)
end LJ0
section LP
variable {D : va_G} {cl : List vw_C} {w1 w2 : va_W} {H H1 : Heap}
theorem P_l (h : va_P D cl (w1 ++ w2) H) : va_P D cl w1 H := fun k q hq => h k q (by rw [List.getElem?_append_left (List.getElem?_eq_some_iff.mp hq).1]; exact hq)
theorem P_r (h : va_P D cl (w1 ++ w2) H) : va_P D cl w2 H := fun k q hq => h (w1.length + k) q (by rw [List.getElem?_append_right (Nat.le_add_right _ _), Nat.add_sub_cancel_left]; exact hq)
theorem at_l {k : Nat} {x : Nat × va_E} (h : w1[k]? = some x) : (w1 ++ w2)[k]? = some x := by rw [List.getElem?_append_left (List.getElem?_eq_some_iff.mp h).1]; exact h
theorem at_r {k n : Nat} {x : Nat × va_E} (h : w2[k]? = some x) (hn : w1.length = n) : (w1 ++ w2)[n + k]? = some x := by subst hn; rw [List.getElem?_append_right (Nat.le_add_right _ _), Nat.add_sub_cancel_left]; exact h
end LP
/-- the walk's g at another count of cells and slots (made so far) -/
def gC (g : kG) (cs sl : Nat) : kG := (g.1, g.2.1, g.2.2.1, g.2.2.2.1, (cs, sl), g.2.2.2.2.2)
theorem Kx.gC {g : kG} {cI cS : ClassId} {cc : ByteArray} {own : String} {Ts : List Cond} {nL : Nat} {rm : Room} (X : Kx g cI cS cc own Ts nL rm) {cs sl : Nat} (hc : cs ≤ rm.cells) (hs : sl ≤ rm.slots) : Kx (gC g cs sl) cI cS cc own Ts nL rm := ⟨X.1, X.2.1, X.2.2.1, X.2.2.2.1, X.2.2.2.2.1, X.2.2.2.2.2.1, X.2.2.2.2.2.2.1, hc, hs⟩
/-! contracts over a world: answers that are ints, longs; readers that make rows; writers -/
def kPw (D : va_G) (cI cS : ClassId) (W0 : va_W) (E : State → Prop) (av : List Value) : Array Value → State → Prop := va_Pc av (fun U => va_P D vwCl W0 U.heap ∧ kK D cI cS U ∧ E U)
def mIL (l : Launch) (y : MethodName) (ws : List Cond) (rm : Room) (D : va_G) (cI cS : ClassId) (W0 : va_W) (E : State → Prop) (av : List Value) (r : Int32) : Prop := Met l y ws rm (kPw D cI cS W0 E av) (vp_Si (fun x => x = r)) 0 0 (fun _ => False)
def mLL (l : Launch) (y : MethodName) (ws : List Cond) (rm : Room) (D : va_G) (cI cS : ClassId) (W0 : va_W) (E : State → Prop) (av : List Value) (r : Int64) : Prop := Met l y ws rm (kPw D cI cS W0 E av) (vp_Sl (fun x => x = r)) 0 0 (fun _ => False)
def mLP (l : Launch) (y : MethodName) (ws : List Cond) (rm : Room) (D : va_G) (cI cS : ClassId) (av : List Value) (r : Int64) : Prop := Met l y ws rm (kPp D cI cS av) (vp_Sl (fun x => x = r)) 0 0 (fun _ => False)
def mAL (l : Launch) (y : MethodName) (ws : List Cond) (rm : Room) (D : va_G) (cI cS : ClassId) (W0 : va_W) (E : State → Prop) (av : List Value) (r : Int32) (mc ms : Nat) : Prop := Met l y ws rm (kPw D cI cS W0 E av) (va_Qi (fun x (_ : Unit) => x = r) (fun _ _ => True) (fun _ => False)) mc ms (fun _ => False)
def mWL (l : Launch) (y : MethodName) (ws : List Cond) (rm : Room) (D : va_G) (cI cS : ClassId) (W0 W1 : va_W) (A : Nat → Prop) (E : State → Prop) (av : List Value) (r : Int32) : Prop := Met l y ws rm (kPw D cI cS W0 E av) (va_Qi (fun x (_ : Unit) => x = r) (fun _ t => va_P D vwCl W1 t.heap) A) 0 0 A
def mVL (l : Launch) (y : MethodName) (ws : List Cond) (rm : Room) (D : va_G) (cI cS : ClassId) (W0 W1 : va_W) (A : Nat → Prop) (E : State → Prop) (av : List Value) : Prop := Met l y ws rm (kPw D cI cS W0 E av) (va_Qv (fun _ : Unit => True) (fun _ t => va_P D vwCl W1 t.heap) A) 0 0 A
/-- what a body may use at its end -/
def eI (g : kG) (nL : Nat) (cc : ByteArray) (ty : FieldType) (W0 : va_W) (r : Int32) : Prop := ∀ (pc : Nat) (lv : List (Option Value)) (v : Int32), decode cc pc = .ok (.ireturn, 1) → narrow ty (.int v) = .int r → JA g W0 nL pc lv [.int v]
def eL (g : kG) (nL : Nat) (cc : ByteArray) (W0 : va_W) (r : Int64) : Prop := ∀ (pc : Nat) (lv : List (Option Value)), decode cc pc = .ok (.lreturn, 1) → JA g W0 nL pc lv [.long r]
def eV (g : kG) (nL : Nat) (cc : ByteArray) (W0 : va_W) : Prop := ∀ (pc : Nat) (lv : List (Option Value)), decode cc pc = .ok (.return_, 1) → JA g W0 nL pc lv []
def eA (g : kG) (nL : Nat) (cc : ByteArray) (ty : FieldType) (r : Int32) (mc ms : Nat) : Prop := ∀ (W0 : va_W) (cs sl : Nat) (pc : Nat) (lv : List (Option Value)) (v : Int32), cs ≤ mc → sl ≤ ms → decode cc pc = .ok (.ireturn, 1) → narrow ty (.int v) = .int r → JA (gC g cs sl) W0 nL pc lv [.int v]
section LJ1
variable {l : Launch} {y : MethodName} {ws ws' : List Cond} {rm : Room} {D : va_G} {cI cS cJ : ClassId} {W0 W1 : va_W} {E : State → Prop} {av : List Value} {r : Int32} {rL : Int64} {cc : ByteArray} {nL mc ms : Nat} {ty : FieldType} {A : Nat → Prop}
theorem mIL.of (hy : plainName y.cls = true) (hw : ws = Cond.code y cc nL (some ty) :: ws') (hn : (kLay av).length ≤ nL) (body : ∀ g : kG, Kx g cI cS cc y.cls ws nL rm → E g.1.2.2.2.2 → g.2.2.2.1 = D → eI g nL cc ty W0 r → JA g W0 nL 0 (kLay av ++ List.replicate (nL - (kLay av).length) none) []) : mIL l y ws rm D cI cS W0 E av r := by
  refine Met.ofW (cc := cc) (maxL := nL) (ret := some ty) hy hw ?_
  intro p e s m args below meth c s₁ B hml hv
  obtain ⟨rfl, hP, hK, hE⟩ := hv
  have hts := atoms_spec (ws := ws) B.pre
  rw [lg_entry_eq]
  exact body ((p, l, e, rm, s), (m, av.toArray, below, meth, c), (fun H L => H = s.heap ∧ L = []), D, (0, 0), MQ below (vp_Si (fun x => x = r)) av.toArray s 0 0 (fun _ => False)) ⟨B.exec, B.bytes, hml, findClass_of_methodNamed B.named, hts, hK, rfl, Nat.zero_le _, Nat.zero_le _⟩ hE rfl
    (fun pc lv v hdg hnar H locs ls hP hS hl => by
      have hS : H = s.heap ∧ locs = [] := hS
      show W p l e _ s m av.toArray below meth c H locs 0 0 (MQ below (vp_Si (fun x => x = r)) av.toArray s 0 0 (fun _ => False)) (F0 m pc ls [.int v])
      exact W.zret2 B.exec B.bytes B.returns hnar (fun t ht _ => ⟨r, rfl, rfl, by rw [ht]; exact hS.1⟩) (fun q hq => by rw [hS.2] at hq; cases hq) hdg B.notSynchronized) s.heap [] _ hP ⟨rfl, rfl⟩ (kO.entry2 hn)
theorem mLL.of (hy : plainName y.cls = true) (hw : ws = Cond.code y cc nL (some .long) :: ws') (hn : (kLay av).length ≤ nL) (body : ∀ g : kG, Kx g cI cS cc y.cls ws nL rm → E g.1.2.2.2.2 → g.2.2.2.1 = D → eL g nL cc W0 rL → JA g W0 nL 0 (kLay av ++ List.replicate (nL - (kLay av).length) none) []) : mLL l y ws rm D cI cS W0 E av rL := by
  refine Met.ofW (cc := cc) (maxL := nL) (ret := some .long) hy hw ?_
  intro p e s m args below meth c s₁ B hml hv
  obtain ⟨rfl, hP, hK, hE⟩ := hv
  have hts := atoms_spec (ws := ws) B.pre
  rw [lg_entry_eq]
  exact body ((p, l, e, rm, s), (m, av.toArray, below, meth, c), (fun H L => H = s.heap ∧ L = []), D, (0, 0), MQ below (vp_Sl (fun x => x = rL)) av.toArray s 0 0 (fun _ => False)) ⟨B.exec, B.bytes, hml, findClass_of_methodNamed B.named, hts, hK, rfl, Nat.zero_le _, Nat.zero_le _⟩ hE rfl
    (fun pc lv hdg H locs ls hP hS hl => by
      have hS : H = s.heap ∧ locs = [] := hS
      show W p l e _ s m av.toArray below meth c H locs 0 0 (MQ below (vp_Sl (fun x => x = rL)) av.toArray s 0 0 (fun _ => False)) (F0 m pc ls [.long rL])
      exact W.lret B.exec B.bytes B.returns (fun t ht _ => ⟨rL, rfl, rfl, by rw [ht]; exact hS.1⟩) (fun q hq => by rw [hS.2] at hq; cases hq) hdg B.notSynchronized) s.heap [] _ hP ⟨rfl, rfl⟩ (kO.entry2 hn)
theorem mP.of2 (hy : plainName y.cls = true) (hw : ws = Cond.code y cc nL (some ty) :: ws') (hn : (kLay av).length ≤ nL) (body : ∀ g : kG, Kx g cI cS cc y.cls ws nL rm → eI g nL cc ty [] r → JA g [] nL 0 (kLay av ++ List.replicate (nL - (kLay av).length) none) []) : mP l y ws rm D cI cS av r := by
  refine Met.ofW (cc := cc) (maxL := nL) (ret := some ty) hy hw ?_
  intro p e s m args below meth c s₁ B hml hv
  obtain ⟨rfl, hK⟩ := hv
  have hts := atoms_spec (ws := ws) B.pre
  rw [lg_entry_eq]
  exact body ((p, l, e, rm, s), (m, av.toArray, below, meth, c), (fun H L => H = s.heap ∧ L = []), D, (0, 0), MQ below (vp_Si (fun x => x = r)) av.toArray s 0 0 (fun _ => False)) ⟨B.exec, B.bytes, hml, findClass_of_methodNamed B.named, hts, hK, rfl, Nat.zero_le _, Nat.zero_le _⟩
    (fun pc lv v hdg hnar H locs ls hP hS hl => by
      have hS : H = s.heap ∧ locs = [] := hS
      show W p l e _ s m av.toArray below meth c H locs 0 0 (MQ below (vp_Si (fun x => x = r)) av.toArray s 0 0 (fun _ => False)) (F0 m pc ls [.int v])
      exact W.zret2 B.exec B.bytes B.returns hnar (fun t ht _ => ⟨r, rfl, rfl, by rw [ht]; exact hS.1⟩) (fun q hq => by rw [hS.2] at hq; cases hq) hdg B.notSynchronized) s.heap [] _ (fun k q h => by simp at h) ⟨rfl, rfl⟩ (kO.entry2 hn)
theorem mLP.of (hy : plainName y.cls = true) (hw : ws = Cond.code y cc nL (some .long) :: ws') (hn : (kLay av).length ≤ nL) (body : ∀ g : kG, Kx g cI cS cc y.cls ws nL rm → eL g nL cc [] rL → JA g [] nL 0 (kLay av ++ List.replicate (nL - (kLay av).length) none) []) : mLP l y ws rm D cI cS av rL := by
  refine Met.ofW (cc := cc) (maxL := nL) (ret := some .long) hy hw ?_
  intro p e s m args below meth c s₁ B hml hv
  obtain ⟨rfl, hK⟩ := hv
  have hts := atoms_spec (ws := ws) B.pre
  rw [lg_entry_eq]
  exact body ((p, l, e, rm, s), (m, av.toArray, below, meth, c), (fun H L => H = s.heap ∧ L = []), D, (0, 0), MQ below (vp_Sl (fun x => x = rL)) av.toArray s 0 0 (fun _ => False)) ⟨B.exec, B.bytes, hml, findClass_of_methodNamed B.named, hts, hK, rfl, Nat.zero_le _, Nat.zero_le _⟩
    (fun pc lv hdg H locs ls hP hS hl => by
      have hS : H = s.heap ∧ locs = [] := hS
      show W p l e _ s m av.toArray below meth c H locs 0 0 (MQ below (vp_Sl (fun x => x = rL)) av.toArray s 0 0 (fun _ => False)) (F0 m pc ls [.long rL])
      exact W.lret B.exec B.bytes B.returns (fun t ht _ => ⟨rL, rfl, rfl, by rw [ht]; exact hS.1⟩) (fun q hq => by rw [hS.2] at hq; cases hq) hdg B.notSynchronized) s.heap [] _ (fun k q h => by simp at h) ⟨rfl, rfl⟩ (kO.entry2 hn)
theorem mAL.of (hy : plainName y.cls = true) (hw : ws = Cond.code y cc nL (some ty) :: ws') (hn : (kLay av).length ≤ nL) (body : ∀ g : kG, Kx g cI cS cc y.cls ws nL rm → E g.1.2.2.2.2 → g.2.2.2.1 = D → g.2.2.1 = va_S (fun q => g.1.2.2.2.2.heap.size ≤ q) g.1.2.2.2.2.heap → va_P D vwCl W0 g.1.2.2.2.2.heap → eA g nL cc ty r mc ms → JA (gC g 0 0) W0 nL 0 (kLay av ++ List.replicate (nL - (kLay av).length) none) []) : mAL l y ws rm D cI cS W0 E av r mc ms := by
  refine Met.ofW (cc := cc) (maxL := nL) (ret := some ty) hy hw ?_
  intro p e s m args below meth c s₁ B hml hv
  obtain ⟨rfl, hP, hK, hE⟩ := hv
  have hts := atoms_spec (ws := ws) B.pre
  rw [lg_entry_eq]
  exact body ((p, l, e, rm, s), (m, av.toArray, below, meth, c), va_S (fun q => s.heap.size ≤ q) s.heap, D, (0, 0), MQ below (va_Qi (fun x (_ : Unit) => x = r) (fun _ _ => True) (fun _ => False)) av.toArray s mc ms (fun _ => False)) ⟨B.exec, B.bytes, hml, findClass_of_methodNamed B.named, hts, hK, rfl, Nat.zero_le _, Nat.zero_le _⟩ hE rfl rfl hP
    (fun W0 cs sl pc lv v hc1 hs1 hdg hnar H locs ls hP hS hl => by
      have hS : va_S (fun q => s.heap.size ≤ q) s.heap H locs := hS
      show W p l e _ s m av.toArray below meth c H locs cs sl (MQ below (va_Qi (fun x (_ : Unit) => x = r) (fun _ _ => True) (fun _ => False)) av.toArray s mc ms (fun _ => False)) (F0 m pc ls [.int v])
      refine W.widen (k := mc) (n := ms) hc1 hs1 ?_
      refine va_forget (fun q hq => hS.2.2 q hq) ?_
      exact W.zret2 B.exec B.bytes B.returns hnar (fun t ht _ => ⟨⟨r, (), rfl, rfl, trivial⟩, by rw [ht]; exact hS.1, fun q h1 _ => by rw [ht]; exact hS.2.1 q h1 (Nat.not_le.mpr h1)⟩) (fun q hq => by cases hq) hdg B.notSynchronized) s.heap [] _ hP va_S.rf (kO.entry2 hn)
theorem mWL.of (hy : plainName y.cls = true) (hw : ws = Cond.code y cc nL (some ty) :: ws') (hn : (kLay av).length ≤ nL) (body : ∀ g : kG, Kx g cI cS cc y.cls ws nL rm → E g.1.2.2.2.2 → g.2.2.2.1 = D → g.2.2.1 = va_S A g.1.2.2.2.2.heap → eI g nL cc ty W1 r → JA g W0 nL 0 (kLay av ++ List.replicate (nL - (kLay av).length) none) []) : mWL l y ws rm D cI cS W0 W1 A E av r := by
  refine Met.ofW (cc := cc) (maxL := nL) (ret := some ty) hy hw ?_
  intro p e s m args below meth c s₁ B hml hv
  obtain ⟨rfl, hP, hK, hE⟩ := hv
  have hts := atoms_spec (ws := ws) B.pre
  rw [lg_entry_eq]
  exact body ((p, l, e, rm, s), (m, av.toArray, below, meth, c), va_S A s.heap, D, (0, 0), MQ below (va_Qi (fun x (_ : Unit) => x = r) (fun _ t => va_P D vwCl W1 t.heap) A) av.toArray s 0 0 A) ⟨B.exec, B.bytes, hml, findClass_of_methodNamed B.named, hts, hK, rfl, Nat.zero_le _, Nat.zero_le _⟩ hE rfl rfl
    (fun pc lv v hdg hnar H locs ls hP hS hl => by
      have hS : va_S A s.heap H locs := hS
      have hP : va_P D vwCl W1 H := hP
      show W p l e _ s m av.toArray below meth c H locs 0 0 (MQ below (va_Qi (fun x (_ : Unit) => x = r) (fun _ t => va_P D vwCl W1 t.heap) A) av.toArray s 0 0 A) (F0 m pc ls [.int v])
      exact W.zret2 B.exec B.bytes B.returns hnar (fun t ht _ => ⟨⟨r, (), rfl, rfl, by show va_P D vwCl W1 t.heap; rw [ht]; exact hP⟩, va_S.F hS ht⟩) hS.2.2 hdg B.notSynchronized) s.heap [] _ hP va_S.rf (kO.entry2 hn)
theorem mVL.of (hy : plainName y.cls = true) (hw : ws = Cond.code y cc nL none :: ws') (hn : (kLay av).length ≤ nL) (body : ∀ g : kG, Kx g cI cS cc y.cls ws nL rm → E g.1.2.2.2.2 → g.2.2.2.1 = D → g.2.2.1 = va_S A g.1.2.2.2.2.heap → eV g nL cc W1 → JA g W0 nL 0 (kLay av ++ List.replicate (nL - (kLay av).length) none) []) : mVL l y ws rm D cI cS W0 W1 A E av := by
  refine Met.ofW (cc := cc) (maxL := nL) (ret := none) hy hw ?_
  intro p e s m args below meth c s₁ B hml hv
  obtain ⟨rfl, hP, hK, hE⟩ := hv
  have hts := atoms_spec (ws := ws) B.pre
  rw [lg_entry_eq]
  exact body ((p, l, e, rm, s), (m, av.toArray, below, meth, c), va_S A s.heap, D, (0, 0), MQ below (va_Qv (fun _ : Unit => True) (fun _ t => va_P D vwCl W1 t.heap) A) av.toArray s 0 0 A) ⟨B.exec, B.bytes, hml, findClass_of_methodNamed B.named, hts, hK, rfl, Nat.zero_le _, Nat.zero_le _⟩ hE rfl rfl
    (fun pc lv hdg H locs ls hP hS hl => by
      have hS : va_S A s.heap H locs := hS
      have hP : va_P D vwCl W1 H := hP
      show W p l e _ s m av.toArray below meth c H locs 0 0 (MQ below (va_Qv (fun _ : Unit => True) (fun _ t => va_P D vwCl W1 t.heap) A) av.toArray s 0 0 A) (F0 m pc ls [])
      exact W.vret B.exec B.bytes B.returns (fun t ht _ => ⟨⟨(), rfl, trivial, by show va_P D vwCl W1 t.heap; rw [ht]; exact hP⟩, va_S.F hS ht⟩) hS.2.2 hdg B.notSynchronized) s.heap [] _ hP va_S.rf (kO.entry2 hn)
end LJ1
section LJ2
variable {g : kG} {cI cS cJ : ClassId} {cc : ByteArray} {own : String} {Ts : List Cond} {nL : Nat} {rm : Room} {C C' : kS} {pc cs sl : Nat} {lv lv' : List (Option Value)} {st st0 : List Value} {A : Nat → Prop} {W0 W1 W2 : va_W} {r v : Int32} {rL vL : Int64} {ty : FieldType}
variable {y : MethodName} {wsc wsc' : List Cond} {rmc : Room} {bytes : ByteArray} {maxL index mc ms : Nat} {ret : Option FieldType} {As : List Value}
theorem a_retI (hR : eI g nL cc .int W0 r) (hdg : decode cc pc = .ok (.ireturn, 1)) (hf : some v = some r) : JA g W0 nL pc lv [.int v] := hR pc lv v hdg (by cases hf; rfl)
theorem a_retB (hR : eI g nL cc .boolean W0 r) (hdg : decode cc pc = .ok (.ireturn, 1)) (hf : some (v &&& 1) = some r) : JA g W0 nL pc lv [.int v] := hR pc lv v hdg (by cases hf; rfl)
theorem a_retL (hR : eL g nL cc W0 rL) (hdg : decode cc pc = .ok (.lreturn, 1)) (hf : some vL = some rL) : JA g W0 nL pc lv [.long vL] := by cases hf; exact hR pc lv hdg
theorem a_retAI (hR : eA g nL cc .int r mc ms) (hc : cs ≤ mc) (hs : sl ≤ ms) (hdg : decode cc pc = .ok (.ireturn, 1)) (hf : some v = some r) : JA (gC g cs sl) W0 nL pc lv [.int v] := hR W0 cs sl pc lv v hc hs hdg (by cases hf; rfl)
theorem a_retAB (hR : eA g nL cc .boolean r mc ms) (hc : cs ≤ mc) (hs : sl ≤ ms) (hdg : decode cc pc = .ok (.ireturn, 1)) (hf : some (v &&& 1) = some r) : JA (gC g cs sl) W0 nL pc lv [.int v] := hR W0 cs sl pc lv v hc hs hdg (by cases hf; rfl)
theorem a_retWB {α : Type} {p pr : α} {Wf : α → va_W} (hR : eI g nL cc .boolean (Wf pr) r) (hdg : decode cc pc = .ok (.ireturn, 1)) (hf : some (v &&& 1, p) = some (r, pr)) : JA g (Wf p) nL pc lv [.int v] := by
  cases hf
  exact hR pc lv v hdg rfl
theorem a_retV {α : Type} {p pr : α} {Wf : α → va_W} (hR : eV g nL cc (Wf pr)) (hdg : decode cc pc = .ok (.return_, 1)) (hf : some p = some pr) : JA g (Wf p) nL pc lv [] := by
  cases hf
  exact hR pc lv hdg
theorem a_widen {cs2 sl2 : Nat} (h1 : cs ≤ cs2) (h2 : sl ≤ sl2) (k : JA (gC g cs2 sl2) W0 nL pc lv st) : JA (gC g cs sl) W0 nL pc lv st := fun H locs ls hP hS hl => W.widen (k := cs2) (n := sl2) h1 h2 (k H locs ls hP hS hl)
theorem a_iald (X : Kx g cI cS cc own Ts nL rm) {b q0 n : Nat} {f : Nat → Int32} (ha : W0[q0]? = some (b, .inl (cI, n, .inl f))) {i : Int32} (hin : vp_in i n) (hdg : decode cc pc = .ok (.iaload, 1)) (kk : JA g W0 nL (pc + 1) lv (.int (f i.toNatClampNeg) :: st)) : JA g W0 nL pc lv (.int i :: .ref b :: st) := j_iald (Wf := fun _ => W0) X ha hin hdg kk
theorem a_lald (X : Kx g cI cS cc own Ts nL rm) (hE : kE g.2.2.2.1 cJ g.1.2.2.2.2) {b q0 n : Nat} {f : Nat → Int64} (ha : W0[q0]? = some (b, .inl (cJ, n, .inr (.inl f)))) {i : Int32} (hin : vp_in i n) (hdg : decode cc pc = .ok (.laload, 1)) (kk : JA g W0 nL (pc + 1) lv (.long (f i.toNatClampNeg) :: st)) : JA g W0 nL pc lv (.int i :: .ref b :: st) := fun H locs ls hP hS h => va_lald X.1 X.2.1 hE hP q0 0 ha rfl hin hdg (kk H locs ls hP hS h)
theorem a_iast (X : Kx g cI cS cc own Ts nL rm) (hA : g.2.2.1 = va_S A g.1.2.2.2.2.heap) (hD : va_D (fun _ => True) W0) {b q0 n : Nat} (hb : A b) {f : Nat → Int32} (ha : W0[q0]? = some (b, .inl (cI, n, .inl f))) {i x : Int32} (hin : vp_in i n) (hdg : decode cc pc = .ok (.iastore, 1)) (hset : W0.set q0 (b, .inl (cI, n, .inl (upd f i.toNatClampNeg x))) = W1) (kk : JA g W1 nL (pc + 1) lv st) : JA g W0 nL pc lv (.int x :: .int i :: .ref b :: st) := fun H locs ls hP hS h => by
  have hP : va_P g.2.2.2.1 vwCl W0 H := hP
  have hS1 : va_S A g.1.2.2.2.2.heap H locs := Eq.mp (congrFun (congrFun hA H) locs) hS
  refine W.iast X.1 X.2.1 (hP q0 _ ha) ((X.2.2.2.2.2.1.1.2 0 (cI, .int) rfl).1 n (fun j => .int (f j))) (fun q => by cases q) (by show ¬ (i < 0 ∨ (arrV _ _ _).slots.size ≤ _); rw [arrV_size]; exact hin) rfl rfl hdg fun H1 e z oq => ?_
  refine kk H1 _ ls ?_ (Eq.mpr (congrFun (congrFun hA H1) _) (hS1.put z oq hb)) h
  show va_P g.2.2.2.1 vwCl W1 H1
  rw [← hset]
  refine hP.set hD ha ?_ oq
  show H1[b]? = some (vp_cell _ _)
  rw [e, vp_cell_i, vp_cell_i, arrV_store]
  congr 2
  funext q
  by_cases hq : q = i.toNatClampNeg
  · subst hq
    simp [updV, upd]
  · simp [updV, upd, hq]
theorem a_last (X : Kx g cI cS cc own Ts nL rm) (hE : kE g.2.2.2.1 cJ g.1.2.2.2.2) (hA : g.2.2.1 = va_S A g.1.2.2.2.2.heap) (hD : va_D (fun _ => True) W0) {b q0 n : Nat} (hb : A b) {f : Nat → Int64} (ha : W0[q0]? = some (b, .inl (cJ, n, .inr (.inl f)))) {i : Int32} {x : Int64} (hin : vp_in i n) (hdg : decode cc pc = .ok (.lastore, 1)) (hset : W0.set q0 (b, .inl (cJ, n, .inr (.inl (vp_updL f i.toNatClampNeg x)))) = W1) (kk : JA g W1 nL (pc + 1) lv st) : JA g W0 nL pc lv (.long x :: .int i :: .ref b :: st) := fun H locs ls hP hS h => by
  have hP : va_P g.2.2.2.1 vwCl W0 H := hP
  have hS1 : va_S A g.1.2.2.2.2.heap H locs := Eq.mp (congrFun (congrFun hA H) locs) hS
  refine W.last X.1 X.2.1 (hP q0 _ ha) ((hE.2 0 (cJ, .long) rfl).1 n (fun j => .long (f j))) (fun q => by cases q) (by show ¬ (i < 0 ∨ (arrV _ _ _).slots.size ≤ _); rw [arrV_size]; exact hin) rfl rfl hdg fun H1 e z oq => ?_
  refine kk H1 _ ls ?_ (Eq.mpr (congrFun (congrFun hA H1) _) (hS1.put z oq hb)) h
  show va_P g.2.2.2.1 vwCl W1 H1
  rw [← hset]
  refine hP.set hD ha ?_ oq
  show H1[b]? = some (vp_cell _ _)
  rw [e, vp_cell_l, vp_cell_l, arrV_store]
  congr 2
  funext q
  by_cases hq : q = i.toNatClampNeg
  · subst hq
    simp [updV, vp_updL]
  · simp [updV, vp_updL, hq]
/-- a row of ints is made -/
theorem a_newa (X : Kx (gC g cs sl) cI cS cc own Ts nL rm) (hA : g.2.2.1 = va_S A g.1.2.2.2.2.heap) (hD : va_D (fun _ => True) W0) (harr : Cond.arrayClass .int ∈ Ts) {n : Int32} {N : Nat} (hn : ¬ n < 0) (hN : n.toNatClampNeg = N) (hbytes : N ≤ 10000) (hcs : cs + 1 ≤ rm.cells) (hsl : sl + N ≤ rm.slots) (hdg : decode cc pc = .ok (.newarray .int, 2)) (kk : ∀ q : Nat, g.1.2.2.2.2.heap.size ≤ q → va_D (fun _ => True) (W0 ++ [(q, .inl (cI, N, .inl (fun _ => 0)))]) → JA (gC g (cs + 1) (sl + N)) (W0 ++ [(q, .inl (cI, N, .inl (fun _ => 0)))]) nL (pc + 2) lv (.ref q :: st)) : JA (gC g cs sl) W0 nL pc lv (.int n :: st) := fun H locs ls hP hS h => by
  have hP : va_P g.2.2.2.1 vwCl W0 H := hP
  have hS1 : va_S A g.1.2.2.2.2.heap H locs := Eq.mp (congrFun (congrFun hA H) locs) hS
  refine va_newaK (atype := .int) X.1 X.2.1 (X.2.2.2.2.1 _ harr) rfl hdg rfl hn hN (by show N * 4 ≤ _; omega) (by rw [X.2.2.2.2.2.2.1]; exact hcs) (by rw [X.2.2.2.2.2.2.1]; exact hsl) rfl fun H1 cA e1 z1 o1 hAr hNm => ?_
  have hK : va_K g.2.2.2.1 vwCl (kTy cI cS) g.1.2.2.2.2 := X.2.2.2.2.2.1.1
  have hcA : cA = cI := Option.some.inj (hNm.symm.trans (hK.2 0 (cI, .int) rfl).2)
  subst hcA
  have hk : ∀ (k : Nat) (x : Nat × va_E), W0[k]? = some x → H1[x.1]? = H[x.1]? := fun k x hx => o1 x.1 ((hP k x hx).lt)
  refine kk H.size hS1.1 (hD.push hP rfl trivial) H1 locs ls ?_ (Eq.mpr (congrFun (congrFun hA H1) locs) ⟨Nat.le_trans hS1.1 (by omega), fun x h1 h2 => (o1 x (Nat.lt_of_lt_of_le h1 hS1.1)).trans (hS1.2.1 x h1 h2), hS1.2.2⟩) h
  show va_P g.2.2.2.1 vwCl (W0 ++ [(H.size, .inl (cA, N, .inl (fun _ => 0)))]) H1
  refine (hP.kept hk).app (fun k x hx => ?_)
  have hz : k < 1 := (List.getElem?_eq_some_iff.mp hx).1
  have hz0 : k = 0 := by omega
  subst hz0
  cases hx
  exact e1
theorem a_callIL (X : Kx g cI cS cc own Ts nL rm) (hE : kE g.2.2.2.1 cJ g.1.2.2.2.2) (hM : mIL g.1.2.1 y wsc rmc g.2.2.2.1 cI cS W1 (kE g.2.2.2.1 cJ) As r) (hsub : ∀ H : Heap, va_P g.2.2.2.1 vwCl W0 H → va_P g.2.2.2.1 vwCl W1 H) (hG : GoodIn Ts (va_wsS own index y wsc)) (hw : wsc = Cond.code y bytes maxL ret :: wsc') (h0 : rmc.cells = 0 ∧ rmc.slots = 0) {n : Nat} (hd : kHd y n) (hR : kRm rmc rm maxL) (hn : As.length = n) (hsum : (st.map fun v => v.category).sum ≤ 8) (hst : st0 = As.reverse ++ st) (hdg : decode cc pc = .ok (.invokestatic index, 3)) (kk : JA g W0 nL (pc + 3) lv (.int r :: st)) : JA g W0 nL pc lv st0 := by
  intro H locs ls hP hS hl
  subst hst
  have hk := X.2.2.2.2.2.1
  refine vp_callSi (W.runS (As := As) (rest := st) (nL := nL) ⟨X.1, X.2.1, X.2.2.1, X.2.2.2.1, X.2.2.2.2.1⟩ hM (va_cwS n X.2.2.2.2.1 hG hw h0.1 h0.2 hd (by rw [X.2.2.2.2.2.2.1]; exact hR)) ⟨fun a U f mk q => ⟨q.1, q.2.1, q.2.2.1.blind, q.2.2.2.blind⟩, fun U hU hW => ⟨rfl, by rw [hU]; exact hsub H hP, hk.warm hW, hE.warm hW⟩⟩ rfl hn hl.2.1 rfl (lv_room hsum) hdg ⟨by rw [X.2.2.2.2.2.2.1]; exact X.2.2.2.2.2.2.2.1, by rw [X.2.2.2.2.2.2.1]; exact X.2.2.2.2.2.2.2.2⟩) (fun r' hr' => ?_)
  subst hr'
  exact kk H locs ls hP hS hl
theorem a_callLL (X : Kx g cI cS cc own Ts nL rm) (hE : kE g.2.2.2.1 cJ g.1.2.2.2.2) (hM : mLL g.1.2.1 y wsc rmc g.2.2.2.1 cI cS W1 (kE g.2.2.2.1 cJ) As rL) (hsub : ∀ H : Heap, va_P g.2.2.2.1 vwCl W0 H → va_P g.2.2.2.1 vwCl W1 H) (hG : GoodIn Ts (va_wsS own index y wsc)) (hw : wsc = Cond.code y bytes maxL ret :: wsc') (h0 : rmc.cells = 0 ∧ rmc.slots = 0) {n : Nat} (hd : kHd y n) (hR : kRm rmc rm maxL) (hn : As.length = n) (hsum : (st.map fun v => v.category).sum ≤ 8) (hst : st0 = As.reverse ++ st) (hdg : decode cc pc = .ok (.invokestatic index, 3)) (kk : JA g W0 nL (pc + 3) lv (.long rL :: st)) : JA g W0 nL pc lv st0 := by
  intro H locs ls hP hS hl
  subst hst
  have hk := X.2.2.2.2.2.1
  refine vp_callSl (W.runS (As := As) (rest := st) (nL := nL) ⟨X.1, X.2.1, X.2.2.1, X.2.2.2.1, X.2.2.2.2.1⟩ hM (va_cwS n X.2.2.2.2.1 hG hw h0.1 h0.2 hd (by rw [X.2.2.2.2.2.2.1]; exact hR)) ⟨fun a U f mk q => ⟨q.1, q.2.1, q.2.2.1.blind, q.2.2.2.blind⟩, fun U hU hW => ⟨rfl, by rw [hU]; exact hsub H hP, hk.warm hW, hE.warm hW⟩⟩ rfl hn hl.2.1 rfl (lv_room hsum) hdg ⟨by rw [X.2.2.2.2.2.2.1]; exact X.2.2.2.2.2.2.2.1, by rw [X.2.2.2.2.2.2.1]; exact X.2.2.2.2.2.2.2.2⟩) (fun r' hr' => ?_)
  subst hr'
  exact kk H locs ls hP hS hl
theorem a_callLP (X : Kx g cI cS cc own Ts nL rm) (hM : mLP g.1.2.1 y wsc rmc g.2.2.2.1 cI cS As rL) (hG : GoodIn Ts (va_wsS own index y wsc)) (hw : wsc = Cond.code y bytes maxL ret :: wsc') (h0 : rmc.cells = 0 ∧ rmc.slots = 0) {n : Nat} (hd : kHd y n) (hR : kRm rmc rm maxL) (hn : As.length = n) (hsum : (st.map fun v => v.category).sum ≤ 8) (hst : st0 = As.reverse ++ st) (hdg : decode cc pc = .ok (.invokestatic index, 3)) (kk : JA g W0 nL (pc + 3) lv (.long rL :: st)) : JA g W0 nL pc lv st0 := by
  intro H locs ls hP hS hl
  subst hst
  have hk := X.2.2.2.2.2.1
  refine vp_callSl (W.runS (As := As) (rest := st) (nL := nL) ⟨X.1, X.2.1, X.2.2.1, X.2.2.2.1, X.2.2.2.2.1⟩ hM (va_cwS n X.2.2.2.2.1 hG hw h0.1 h0.2 hd (by rw [X.2.2.2.2.2.2.1]; exact hR)) ⟨fun a U f mk q => ⟨q.1, q.2.blind⟩, fun U hU hW => ⟨rfl, hk.warm hW⟩⟩ rfl hn hl.2.1 rfl (lv_room hsum) hdg ⟨by rw [X.2.2.2.2.2.2.1]; exact X.2.2.2.2.2.2.2.1, by rw [X.2.2.2.2.2.2.1]; exact X.2.2.2.2.2.2.2.2⟩) (fun r' hr' => ?_)
  subst hr'
  exact kk H locs ls hP hS hl
theorem a_callAL (X : Kx (gC g cs sl) cI cS cc own Ts nL rm) (hE : kE g.2.2.2.1 cJ g.1.2.2.2.2) (hA : g.2.2.1 = va_S A g.1.2.2.2.2.heap) (hM : mAL g.1.2.1 y wsc rmc g.2.2.2.1 cI cS W1 (kE g.2.2.2.1 cJ) As r mc ms) (hsub : ∀ H : Heap, va_P g.2.2.2.1 vwCl W0 H → va_P g.2.2.2.1 vwCl W1 H) (hG : GoodIn Ts (va_wsS own index y wsc)) (hw : wsc = Cond.code y bytes maxL ret :: wsc') (hrc : rmc.cells = mc) (hrs : rmc.slots = ms) {n : Nat} (hd : kHd y n) (hR : kRm rmc rm maxL) (hn : As.length = n) (hcs : cs + mc ≤ rm.cells) (hsl : sl + ms ≤ rm.slots) (hsum : (st.map fun v => v.category).sum ≤ 8) (hst : st0 = As.reverse ++ st) (hdg : decode cc pc = .ok (.invokestatic index, 3)) (kk : JA (gC g (cs + mc) (sl + ms)) W0 nL (pc + 3) lv (.int r :: st)) : JA (gC g cs sl) W0 nL pc lv st0 := by
  intro H locs ls hP hS hl
  subst hst
  have hk := X.2.2.2.2.2.1
  have hP : va_P g.2.2.2.1 vwCl W0 H := hP
  refine va_calli (va_runS (As := As) (rest := st) (nL := nL) ⟨X.1, X.2.1, X.2.2.1, X.2.2.2.1, X.2.2.2.2.1⟩ hM (va_cwS n X.2.2.2.2.1 hG hw hrc hrs hd (by rw [X.2.2.2.2.2.2.1]; exact hR)) ⟨fun a U f mk q => ⟨q.1, q.2.1, q.2.2.1.blind, q.2.2.2.blind⟩, fun U hU hW => ⟨rfl, by rw [hU]; exact hsub H hP, hk.warm hW, hE.warm hW⟩⟩ rfl hn hl.2.1 rfl (lv_room hsum) hdg ⟨by rw [X.2.2.2.2.2.2.1]; exact hcs, by rw [X.2.2.2.2.2.2.1]; exact hsl⟩) (Eq.mp (congrFun (congrFun hA H) locs) hS) (fun _ _ h => h.elim) (fun _ h => h.elim) (fun r' u t H1 locs1 ht hvm hw hB hz hk1 hS1 => ?_)
  have hw : r' = r := hw
  subst hw
  exact kk H1 locs1 ls (hP.kept (fun k x hx => hk1 x.1 (hP k x hx).lt (fun h => h))) (Eq.mpr (congrFun (congrFun hA H1) locs1) hS1) hl
/-- a static writer over the same world -/
theorem a_callWL (X : Kx g cI cS cc own Ts nL rm) (hE : kE g.2.2.2.1 cJ g.1.2.2.2.2) (hA : g.2.2.1 = va_S A g.1.2.2.2.2.heap) (hM : mWL g.1.2.1 y wsc rmc g.2.2.2.1 cI cS W0 W1 A (kE g.2.2.2.1 cJ) As r) (hG : GoodIn Ts (va_wsS own index y wsc)) (hw : wsc = Cond.code y bytes maxL ret :: wsc') (h0 : rmc.cells = 0 ∧ rmc.slots = 0) {n : Nat} (hd : kHd y n) (hR : kRm rmc rm maxL) (hn : As.length = n) (hsum : (st.map fun v => v.category).sum ≤ 8) (hst : st0 = As.reverse ++ st) (hdg : decode cc pc = .ok (.invokestatic index, 3)) (kk : JA g W1 nL (pc + 3) lv (.int r :: st)) : JA g W0 nL pc lv st0 := by
  intro H locs ls hP hS hl
  subst hst
  have hk := X.2.2.2.2.2.1
  have hP : va_P g.2.2.2.1 vwCl W0 H := hP
  refine va_calli (va_runS (As := As) (rest := st) (nL := nL) ⟨X.1, X.2.1, X.2.2.1, X.2.2.2.1, X.2.2.2.2.1⟩ hM (va_cwS n X.2.2.2.2.1 hG hw h0.1 h0.2 hd (by rw [X.2.2.2.2.2.2.1]; exact hR)) ⟨fun a U f mk q => ⟨q.1, q.2.1, q.2.2.1.blind, q.2.2.2.blind⟩, fun U hU hW => ⟨rfl, by rw [hU]; exact hP, hk.warm hW, hE.warm hW⟩⟩ rfl hn hl.2.1 rfl (lv_room hsum) hdg ⟨by rw [X.2.2.2.2.2.2.1]; exact X.2.2.2.2.2.2.2.1, by rw [X.2.2.2.2.2.2.1]; exact X.2.2.2.2.2.2.2.2⟩) (Eq.mp (congrFun (congrFun hA H) locs) hS) (fun _ _ h => h) (fun _ h => h) (fun r' u t H1 locs1 ht hvm hw hB hz hk1 hS1 => ?_)
  have hw : r' = r := hw
  subst hw
  exact kk H1 locs1 ls (by rw [← ht]; exact hB) (Eq.mpr (congrFun (congrFun hA H1) locs1) hS1) hl
end LJ2
