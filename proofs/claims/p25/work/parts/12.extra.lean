/-! ===== the history's answers that are null or a state; two static tables; the class's starter with a further premise ===== -/
def oM {α β : Type} (o : Option α) (a : β) (f : α → β) : β := match o with
  | none => a
  | some x => f x
def mQ (l : Launch) (y : MethodName) (ws : List Cond) (rm : Room) (D : va_G) (cI cS : ClassId) (ad : Nat → Nat) (C : kS) (av : List Value) (o : Option Int32) : Prop := Met l y ws rm (kPc D cI cS (WC cI cS ad) C av) (va_Sq (fun x => x = o.map (fun q : Int32 => ad q.toNatClampNeg))) 0 0 (fun _ => False)
section KQ
variable {g : kG} {cI cS : ClassId} {ad : Nat → Nat} {cc : ByteArray} {own : String} {Ts : List Cond} {nL : Nat} {rm : Room} {Wf : kS → va_W} {C C' : kS} {pc : Nat} {lv lv' : List (Option Value)} {st st0 : List Value} {A : Nat → Prop}
variable {y : MethodName} {wsc wsc' : List Cond} {rmc : Room} {bytes : ByteArray} {maxL index : Nat} {ret : Option FieldType} {As : List Value} {b : Nat} {o : Option Int32} {Cn : String}
theorem j_callQ (X : Kx g cI cS cc own Ts nL rm) (hM : mQ g.1.2.1 y wsc rmc g.2.2.2.1 cI cS ad C (.ref b :: As) o) (hG : GoodIn Ts (wsV own index Cn y wsc)) (hw : wsc = Cond.code y bytes maxL ret :: wsc') (h0 : rmc.cells = 0 ∧ rmc.slots = 0) {n : Nat} (hC : y.cls = Cn) (hd : kHd y n) (hR : kRm rmc rm maxL) {q0 ci : Nat} {fs : List Value} {qq : vw_C} (he : (WC cI cS ad C)[q0]? = some (b, .inr (ci, fs))) (hci : vwCl[ci]? = some qq) (hqn : qq.1 = Cn) (hn : As.length = n) (hsum : (st.map fun v => v.category).sum ≤ 8) (hst : st0 = As.reverse ++ .ref b :: st) (hdg : decode cc pc = .ok (.invokevirtual index, 3)) (kk : J g (WC cI cS ad) nL C (pc + 3) lv (va_rf (o.map (fun q : Int32 => ad q.toNatClampNeg)) :: st)) : J g (WC cI cS ad) nL C pc lv st0 := by
  intro H locs ls hP hS hl
  subst hst
  have hk := X.2.2.2.2.2.1
  refine va_csq (W.runV (As := As) (rest := st) (nL := nL) ⟨X.1, X.2.1, X.2.2.1, X.2.2.2.1, X.2.2.2.2.1⟩ hM (cwV n X.2.2.2.2.1 hG hw h0.1 h0.2 ⟨hC, hd⟩ (by rw [X.2.2.2.2.2.2.1]; exact hR)) ⟨fun a U f mk q => ⟨q.1, q.2.1, q.2.2.blind⟩, ?_, fun U hU hW => ⟨rfl, by rw [hU]; exact hP, hk.warm hW⟩⟩ rfl hn hl.2.1 rfl (lv_room hsum) hdg ⟨by rw [X.2.2.2.2.2.2.1]; exact X.2.2.2.2.2.2.2.1, by rw [X.2.2.2.2.2.2.1]; exact X.2.2.2.2.2.2.2.2⟩) (fun r' hr' => ?_)
  · obtain ⟨cell, a1, a2, a3⟩ := va_recv hk.1 hP hci he
    exact ⟨cell, a1, a2, hqn ▸ a3⟩
  · subst hr'
    exact kk H locs ls hP hS hl
theorem j_null3 (X : Kx g cI cS cc own Ts nL rm) {i : Fin 4} {off : Int} {tgt : Nat} (hd1 : decode cc pc = .ok (.astore_n i, 1)) (hd2 : decode cc (pc + 1) = .ok (.aload_n i, 1)) (hd3 : decode cc (pc + 1 + 1) = .ok (.ifnull off, 3)) (ht : ((pc + 1 + 1 : Nat) : Int) + off = (tgt : Int)) (hi : (i : Nat) < nL) (hl : kLe (lv.set (i : Nat) (some .null)) lv') (k : J g Wf nL C tgt lv' st) (hnl : kNL lv (i : Nat) = true := by rfl) : J g Wf nL C pc lv (.null :: st) := fun H locs ls hP hS h =>
  lv_astore_nN X.1 X.2.1 hd1 rfl h.has hi rfl (fun ls' h' => by
    have h2 := h.set hi rfl h' hnl
    refine lv_aload_nN X.1 X.2.1 hd2 rfl (h2.at (i := (i : Nat)) (by rw [List.getElem?_set_self (by rw [h.1]; exact hi)])) ?_
    exact lv_ifnullN X.1 X.2.1 hd3 ht (j_weak hl k H locs ls' hP hS h2))
theorem j_aconst_null (X : Kx g cI cS cc own Ts nL rm) (hdg : decode cc pc = .ok (.aconst_null, 1)) (k : J g Wf nL C (pc + 1) lv (.null :: st)) : J g Wf nL C pc lv st := fun H locs ls hP hS h => lv_null X.1 X.2.1 hdg (k H locs ls hP hS h)
theorem j_gets (X : Kx g cI cS cc own Ts nL rm) (Y : Kw g Wf A) {Cz n d : String} {v : Value} (hZ : va_Z Cz n d v A g.1.2.2.2.2 g.1.2.2.2.2.heap) (hlk : Cond.fieldLink own index Cz n d ∈ Ts) (hdg : decode cc pc = .ok (.getstatic index, 3)) (kk : J g Wf nL C (pc + 3) lv (v :: st)) : J g Wf nL C pc lv st := fun H locs ls hP hS h => va_gets X.1 X.2.1 hZ (Eq.mp (congrFun (congrFun Y.1 H) locs) hS) X.2.2.2.1 (X.2.2.2.2.1 _ hlk) (fun _ h9 => h9) hdg (kk H locs ls hP hS h)
theorem j_ti (X : Kx g cI cS cc own Ts nL rm) (Y : Kw g Wf A) {t N : Nat} {f : Nat → Int32} (hT : va_T .int t N (fun j => .int (f j)) A g.1.2.2.2.2 g.1.2.2.2.2.heap) {i : Int32} (hin : vp_in i N) (hdg : decode cc pc = .ok (.iaload, 1)) (kk : J g Wf nL C (pc + 1) lv (.int (f i.toNatClampNeg) :: st)) : J g Wf nL C pc lv (.int i :: .ref t :: st) := fun H locs ls hP hS h => va_ti X.1 X.2.1 hT (Eq.mp (congrFun (congrFun Y.1 H) locs) hS) hin rfl hdg (kk H locs ls hP hS h)
end KQ
section KQS
variable {l : Launch} {y : MethodName} {ws ws' : List Cond} {rm : Room} {D : va_G} {cI cS : ClassId} {ad : Nat → Nat} {C C' : kS} {av : List Value} {o : Option Int32} {cc : ByteArray} {nL : Nat} {A : Nat → Prop} {Wf : kS → va_W} {r : Int32} {ty : FieldType}
def kRQ (g : kG) (cI cS : ClassId) (ad : Nat → Nat) (nL : Nat) (cc : ByteArray) (C : kS) (o : Option Int32) : Prop := ∀ (pc : Nat) (lv : List (Option Value)) (v : Value), decode cc pc = .ok (.areturn, 1) → v = va_rf (o.map (fun q : Int32 => ad q.toNatClampNeg)) → J g (WC cI cS ad) nL C pc lv [v]
theorem mQ.of (hy : plainName y.cls = true) (hw : ws = Cond.code y cc nL (some (.object RX5)) :: ws') (hc0 : av.all (fun w => decide (w.category = 1)) = true) (hn : av.length ≤ nL) (body : ∀ g : kG, Kx g cI cS cc y.cls ws nL rm → kRQ g cI cS ad nL cc C o → J g (WC cI cS ad) nL C 0 (av.map some ++ List.replicate (nL - av.length) none) []) : mQ l y ws rm D cI cS ad C av o := by
  refine Met.ofW (cc := cc) (maxL := nL) (ret := some (.object RX5)) hy hw ?_
  intro p e s m args below meth c s₁ B hml hv
  obtain ⟨rfl, hP, hK⟩ := hv
  have hts := atoms_spec (ws := ws) B.pre
  rw [lg_entry_eq]
  exact body ((p, l, e, rm, s), (m, av.toArray, below, meth, c), (fun H L => H = s.heap ∧ L = []), D, (0, 0), MQ below (va_Sq (fun x => x = o.map (fun q : Int32 => ad q.toNatClampNeg))) av.toArray s 0 0 (fun _ => False)) ⟨B.exec, B.bytes, hml, findClass_of_methodNamed B.named, hts, hK, rfl, Nat.zero_le _, Nat.zero_le _⟩
    (fun pc lv v hdg hvv H locs ls hP hS hl => by
      have hS : H = s.heap ∧ locs = [] := hS
      show W p l e _ s m av.toArray below meth c H locs 0 0 (MQ below (va_Sq (fun x => x = o.map (fun q : Int32 => ad q.toNatClampNeg))) av.toArray s 0 0 (fun _ => False)) (F0 m pc ls [v])
      subst hvv
      exact W.aret B.exec B.bytes B.returns (Or.inl ⟨_, rfl⟩) (va_rf_or _) (fun t ht _ => ⟨_, rfl, rfl, by rw [ht]; exact hS.1⟩) (fun q hq => by rw [hS.2] at hq; cases hq) hdg B.notSynchronized) s.heap [] _ hP ⟨rfl, rfl⟩ (kO.entry (fun w h => of_decide_eq_true (List.all_eq_true.mp hc0 w h)) hn)
def kPcE (D : va_G) (cI cS : ClassId) (Wf : kS → va_W) (C : kS) (E : State → Prop) (av : List Value) : Array Value → State → Prop := va_Pc av (fun U => va_P D vwCl (Wf C) U.heap ∧ kK D cI cS U ∧ E U)
def mWE (l : Launch) (y : MethodName) (ws : List Cond) (rm : Room) (D : va_G) (cI cS : ClassId) (Wf : kS → va_W) (A : Nat → Prop) (E : State → Prop) (C : kS) (av : List Value) (r : Int32) (C' : kS) : Prop := Met l y ws rm (kPcE D cI cS Wf C E av) (va_Qi (fun x (_ : Unit) => x = r) (fun _ t => va_P D vwCl (Wf C') t.heap) A) 0 0 A
theorem mWE.of {E : State → Prop} (hy : plainName y.cls = true) (hw : ws = Cond.code y cc nL (some ty) :: ws') (hc0 : av.all (fun w => decide (w.category = 1)) = true) (hn : av.length ≤ nL) (hD : ∀ C : kS, va_D A (Wf C)) (body : ∀ g : kG, Kx g cI cS cc y.cls ws nL rm → Kw g Wf A → E g.1.2.2.2.2 → kRI g Wf nL cc ty C' r → J g Wf nL C 0 (av.map some ++ List.replicate (nL - av.length) none) []) : mWE l y ws rm D cI cS Wf A E C av r C' := by
  refine Met.ofW (cc := cc) (maxL := nL) (ret := some ty) hy hw ?_
  intro p e s m args below meth c s₁ B hml hv
  obtain ⟨rfl, hP, hK, hE⟩ := hv
  have hts := atoms_spec (ws := ws) B.pre
  rw [lg_entry_eq]
  exact body ((p, l, e, rm, s), (m, av.toArray, below, meth, c), va_S A s.heap, D, (0, 0), MQ below (va_Qi (fun x (_ : Unit) => x = r) (fun _ t => va_P D vwCl (Wf C') t.heap) A) av.toArray s 0 0 A) ⟨B.exec, B.bytes, hml, findClass_of_methodNamed B.named, hts, hK, rfl, Nat.zero_le _, Nat.zero_le _⟩ ⟨rfl, hD⟩ hE
    (fun pc lv v hdg hnar H locs ls hP hS hl => by
      have hS : va_S A s.heap H locs := hS
      have hP : va_P D vwCl (Wf C') H := hP
      show W p l e _ s m av.toArray below meth c H locs 0 0 (MQ below (va_Qi (fun x (_ : Unit) => x = r) (fun _ t => va_P D vwCl (Wf C') t.heap) A) av.toArray s 0 0 A) (F0 m pc ls [.int v])
      exact W.zret2 B.exec B.bytes B.returns hnar (fun t ht _ => ⟨⟨r, (), rfl, rfl, by show va_P D vwCl (Wf C') t.heap; rw [ht]; exact hP⟩, va_S.F hS ht⟩) hS.2.2 hdg B.notSynchronized) s.heap [] _ hP va_S.rf (kO.entry (fun w h => of_decide_eq_true (List.all_eq_true.mp hc0 w h)) hn)
end KQS
def tb_LV : Nat → Int32 := fun j => ([0, 1, 1, 1, 20] : List Int32).getD j 0
def tb_GV : Nat → Int32 := fun j => ([3, 50, 8, 9, 200] : List Int32).getD j 0
def kZ (A : Nat → Prop) (LV GV : Nat) (U : State) : Prop := (va_Z RX8 "LEAST_VALUES" "[I" (.ref LV) A U U.heap ∧ va_T .int LV 5 (fun j => .int (tb_LV j)) A U U.heap) ∧ (va_Z RX8 "GREATEST_VALUES" "[I" (.ref GV) A U U.heap ∧ va_T .int GV 5 (fun j => .int (tb_GV j)) A U U.heap)
