/-! ===== the walking judgement: a state of the system is a function of two numbers (cell, place); J says that from a program counter, with known locals and stack, over any heap that holds the state, the machine comes to the goal ===== -/
abbrev kS : Type := Nat → Nat → Int32
def kWe : kS → va_W := fun _ => []
def kC0 : kS := fun _ _ => 0
def kO (ls : Array Slot) (nL : Nat) (lv : List (Option Value)) : Prop := lv.length = nL ∧ ls.size = nL ∧ lv_wf ls ∧ ∀ (i : Nat) (v : Value), lv[i]? = some (some v) → ls[i]? = some (.val v)
/-- no long begins at the place ahead -/
def kNL (lv : List (Option Value)) : Nat → Bool
  | 0 => true
  | j + 1 => match lv[j]? with
    | some (some v) => v.category == 1
    | _ => true
theorem kNL_s {lv : List (Option Value)} {i j : Nat} {v : Value} (h : kNL lv i = true) (hij : j + 1 = i) (hv : lv[j]? = some (some v)) : v.category = 1 := by
  subst hij
  have h1 : (match lv[j]? with
    | some (some v) => v.category == 1
    | _ => true) = true := h
  rw [hv] at h1
  simpa using h1
def kPr : Nat → List (Option Value) → List (Nat × Value)
  | _, [] => []
  | i, none :: r => kPr (i + 1) r
  | i, some v :: r => (i, v) :: kPr (i + 1) r
theorem kPr_of : ∀ (lv : List (Option Value)) (i0 : Nat) (q : Nat × Value), q ∈ kPr i0 lv → ∃ j, q.1 = i0 + j ∧ lv[j]? = some (some q.2)
  | [], _, q, h => by cases h
  | none :: r, i0, q, h => by
    obtain ⟨j, h1, h2⟩ := kPr_of r (i0 + 1) q h
    exact ⟨j + 1, by omega, by simpa using h2⟩
  | some v :: r, i0, q, h => by
    rcases List.mem_cons.mp h with rfl | h
    · exact ⟨0, rfl, rfl⟩
    · obtain ⟨j, h1, h2⟩ := kPr_of r (i0 + 1) q h
      exact ⟨j + 1, by omega, by simpa using h2⟩
theorem kPr_in : ∀ (lv : List (Option Value)) (i0 j : Nat) (v : Value), lv[j]? = some (some v) → (i0 + j, v) ∈ kPr i0 lv
  | [], i0, j, v, h => by simp at h
  | none :: r, i0, 0, v, h => by simp at h
  | none :: r, i0, j + 1, v, h => by
    have h1 := kPr_in r (i0 + 1) j v (by simpa using h)
    rw [show i0 + (j + 1) = i0 + 1 + j by omega]
    exact h1
  | some w :: r, i0, 0, v, h => by
    have h1 : w = v := by simpa using h
    subst h1
    exact List.mem_cons_self
  | some w :: r, i0, j + 1, v, h => by
    have h1 := kPr_in r (i0 + 1) j v (by simpa using h)
    rw [show i0 + (j + 1) = i0 + 1 + j by omega]
    exact List.mem_cons_of_mem _ h1
theorem kO.has {ls : Array Slot} {nL : Nat} {lv : List (Option Value)} (h : kO ls nL lv) : lv_has ls nL (kPr 0 lv) := ⟨h.2.1, h.2.2.1, fun q hq => by
  obtain ⟨j, h1, h2⟩ := kPr_of lv 0 q hq
  rw [h1, Nat.zero_add]
  exact h.2.2.2 j q.2 h2⟩
theorem kO.at {ls : Array Slot} {nL : Nat} {lv : List (Option Value)} (h : kO ls nL lv) {i : Nat} {v : Value} (hv : lv[i]? = some (some v)) : ls[i]? = some (.val v) := h.2.2.2 i v hv
theorem kO.set {ls ls' : Array Slot} {nL : Nat} {lv : List (Option Value)} (h : kO ls nL lv) {i : Nat} {v : Value} (hi : i < nL) (_ : v.category = 1) (h' : lv_has ls' nL ((i, v) :: (kPr 0 lv).filter (fun q => !(q.1 == i) && !(q.1 + 1 == i && q.2.category == 2)))) (hnl : kNL lv i = true := by rfl) : kO ls' nL (lv.set i (some v)) := by
  refine ⟨by rw [List.length_set]; exact h.1, h'.1, h'.2.1, fun j w hw => ?_⟩
  rw [List.getElem?_set] at hw
  by_cases hij : i = j
  · subst hij
    rw [if_pos rfl, if_pos (by rw [h.1]; exact hi)] at hw
    have h1 : v = w := by simpa using hw
    subst h1
    exact h'.2.2 (i, v) List.mem_cons_self
  · rw [if_neg hij] at hw
    refine h'.2.2 (j, w) (List.mem_cons_of_mem _ (List.mem_filter.mpr ⟨by simpa using kPr_in lv 0 j w hw, ?_⟩))
    have h3 : ¬ j = i := fun e => hij e.symm
    by_cases h4 : j + 1 = i
    · have h5 := kNL_s hnl h4 hw
      simp [h5, h3]
    · simp [h3, h4]
theorem kO.set2 {ls ls' : Array Slot} {nL : Nat} {lv : List (Option Value)} (h : kO ls nL lv) {i : Nat} {v : Value} (hi : i + 1 < nL) (h' : lv_has ls' nL ((i, v) :: (kPr 0 lv).filter (fun q => !(q.1 == i) && (!(q.1 == i + 1) && !(q.1 + 1 == i && q.2.category == 2))))) (hnl : kNL lv i = true := by rfl) : kO ls' nL ((lv.set i (some v)).set (i + 1) none) := by
  refine ⟨by rw [List.length_set, List.length_set]; exact h.1, h'.1, h'.2.1, fun j w hw => ?_⟩
  rw [List.getElem?_set] at hw
  by_cases hij1 : i + 1 = j
  · rw [if_pos hij1] at hw
    split at hw <;> cases hw
  · rw [if_neg hij1, List.getElem?_set] at hw
    by_cases hij : i = j
    · subst hij
      rw [if_pos rfl, if_pos (by rw [h.1]; omega)] at hw
      have h1 : v = w := by simpa using hw
      subst h1
      exact h'.2.2 (i, v) List.mem_cons_self
    · rw [if_neg hij] at hw
      refine h'.2.2 (j, w) (List.mem_cons_of_mem _ (List.mem_filter.mpr ⟨by simpa using kPr_in lv 0 j w hw, ?_⟩))
      have h3 : ¬ j = i := fun e => hij e.symm
      have h6 : ¬ j = i + 1 := fun e => hij1 e.symm
      by_cases h4 : j + 1 = i
      · have h5 := kNL_s hnl h4 hw
        simp [h5, h3, h6]
      · simp [h3, h4, h6]
theorem kArgs_in : ∀ (vs : List Value) (i j : Nat) (v : Value), (∀ w ∈ vs, w.category = 1) → vs[j]? = some v → (i + j, v) ∈ lv_args i vs
  | [], i, j, v, _, h => by simp at h
  | w :: r, i, 0, v, _, h => by
    have h1 : w = v := by simpa using h
    subst h1
    exact List.mem_cons_self
  | w :: r, i, j + 1, v, hc, h => by
    have h1 := kArgs_in r (i + 1) j v (fun z hz => hc z (List.mem_cons_of_mem _ hz)) (by simpa using h)
    have h2 : ¬ w.category = 2 := by rw [hc w List.mem_cons_self]; decide
    rw [show i + (j + 1) = i + 1 + j by omega]
    refine List.mem_cons_of_mem _ ?_
    rw [if_neg h2]
    exact h1
theorem kSl_len : ∀ (vs : List Value), (∀ w ∈ vs, w.category = 1) → (lg_sl vs).length = vs.length
  | [], _ => rfl
  | w :: r, hc => by
    have h2 : ¬ w.category = 2 := by rw [hc w List.mem_cons_self]; decide
    have h1 := kSl_len r (fun z hz => hc z (List.mem_cons_of_mem _ hz))
    show ((if w.category = 2 then [Slot.val w, Slot.second] else [Slot.val w]) ++ lg_sl r).length = r.length + 1
    rw [if_neg h2, List.length_append, h1, List.length_singleton]
    omega
theorem kO.entry {vs : List Value} {n : Nat} (hc : ∀ w ∈ vs, w.category = 1) (h : vs.length ≤ n) : kO ((lg_sl vs ++ List.replicate (n - (lg_sl vs).length) Slot.unset).toArray) n (vs.map some ++ List.replicate (n - vs.length) none) := by
  have h0 := lv_entry vs (n := n) (by rw [kSl_len vs hc]; exact h)
  refine ⟨by simp; omega, h0.1, h0.2.1, fun j v hv => ?_⟩
  have h1 : vs[j]? = some v := by
    rcases Nat.lt_or_ge j vs.length with q | q
    · rw [List.getElem?_append_left (by simpa using q), List.getElem?_map] at hv
      cases hq : vs[j]? with
      | none => rw [hq] at hv; cases hv
      | some w => rw [hq] at hv; cases hv; rfl
    · rw [List.getElem?_append_right (by simpa using q)] at hv
      have h2 := List.eq_of_mem_replicate (List.mem_of_getElem? hv)
      cases h2
  have h2 := h0.2.2 (0 + j, v) (kArgs_in vs 0 j v hc h1)
  rw [Nat.zero_add] at h2
  exact h2
/-- arguments of which some are longs -/
def kLay : List Value → List (Option Value)
  | [] => []
  | v :: r => if v.category = 2 then some v :: none :: kLay r else some v :: kLay r
theorem kLay_in : ∀ (vs : List Value) (i j : Nat) (v : Value), (kLay vs)[j]? = some (some v) → (i + j, v) ∈ lv_args i vs
  | [], i, j, v, h => by simp [kLay] at h
  | w :: r, i, j, v, h => by
    unfold kLay at h
    show (i + j, v) ∈ (i, w) :: lv_args (if w.category = 2 then i + 2 else i + 1) r
    by_cases c : w.category = 2
    · rw [if_pos c] at h
      rw [if_pos c]
      match j, h with
      | 0, h =>
        have h1 : w = v := by simpa using h
        subst h1
        exact List.mem_cons_self
      | 1, h => simp at h
      | j + 2, h =>
        have h1 := kLay_in r (i + 2) j v (by simpa using h)
        rw [show i + (j + 2) = i + 2 + j by omega]
        exact List.mem_cons_of_mem _ h1
    · rw [if_neg c] at h
      rw [if_neg c]
      match j, h with
      | 0, h =>
        have h1 : w = v := by simpa using h
        subst h1
        exact List.mem_cons_self
      | j + 1, h =>
        have h1 := kLay_in r (i + 1) j v (by simpa using h)
        rw [show i + (j + 1) = i + 1 + j by omega]
        exact List.mem_cons_of_mem _ h1
theorem kLay_len : ∀ vs : List Value, (lg_sl vs).length = (kLay vs).length
  | [] => rfl
  | w :: r => by
    have h1 := kLay_len r
    show ((if w.category = 2 then [Slot.val w, Slot.second] else [Slot.val w]) ++ lg_sl r).length = (kLay (w :: r)).length
    unfold kLay
    by_cases c : w.category = 2
    · rw [if_pos c, if_pos c, List.length_append, h1]
      simp
      omega
    · rw [if_neg c, if_neg c, List.length_append, h1]
      simp
      omega
theorem kO.entry2 {vs : List Value} {n : Nat} (h : (kLay vs).length ≤ n) : kO ((lg_sl vs ++ List.replicate (n - (lg_sl vs).length) Slot.unset).toArray) n (kLay vs ++ List.replicate (n - (kLay vs).length) none) := by
  have h0 := lv_entry vs (n := n) (by rw [kLay_len vs]; exact h)
  refine ⟨by simp; omega, h0.1, h0.2.1, fun j v hv => ?_⟩
  have h1 : (kLay vs)[j]? = some (some v) := by
    rcases Nat.lt_or_ge j (kLay vs).length with q | q
    · rw [List.getElem?_append_left q] at hv
      exact hv
    · rw [List.getElem?_append_right q] at hv
      have h2 := List.eq_of_mem_replicate (List.mem_of_getElem? hv)
      cases h2
  have h2 := h0.2.2 (0 + j, v) (kLay_in vs 0 j v h1)
  rw [Nat.zero_add] at h2
  exact h2
/-- the fixed things of a walk -/
abbrev kG : Type := (Program × Launch × Env × Room × State) × (MethodId × Array Value × List Frame × Method × Code) × (Heap → List Loc → Prop) × va_G × (Nat × Nat) × (State → Prop)
def J (g : kG) (Wf : kS → va_W) (nL : Nat) (C : kS) (pc : Nat) (lv : List (Option Value)) (st : List Value) : Prop :=
  ∀ (H : Heap) (locs : List Loc) (ls : Array Slot), va_P g.2.2.2.1 vwCl (Wf C) H → g.2.2.1 H locs → kO ls nL lv → W g.1.1 g.1.2.1 g.1.2.2.1 g.1.2.2.2.1 g.1.2.2.2.2 g.2.1.1 g.2.1.2.1 g.2.1.2.2.1 g.2.1.2.2.2.1 g.2.1.2.2.2.2 H locs g.2.2.2.2.1.1 g.2.2.2.2.1.2 g.2.2.2.2.2 (F0 g.2.1.1 pc ls st)
abbrev kTy (cI cS : ClassId) : List (ClassId × FieldType) := [(cI, .int), (cS, .object RX5)]
/-- the private fields and the private function that nest mates use: words that no reader of steady words carries -/
def kNF : List (String × Nat × String × String × String) := [(RX8, 102, RX5, "endings", "LBlackBars$Words;"), (RX8, 113, RX5, "letterWidths", "LBlackBars$Row;"), (RX8, 133, RX5, "settings", "LBlackBars$Row;"), (RX8, 80, RX5, "page", "LBlackBars$Words;"), (RX8, 95, RX5, "names", "LBlackBars$Words;"), (RX1, 37, RX5, "endings", "LBlackBars$Words;"), (RX1, 48, RX5, "names", "LBlackBars$Words;"), (RX4, 47, RX5, "page", "LBlackBars$Words;"), (RX4, 77, RX5, "letterWidths", "LBlackBars$Row;"), (RX4, 84, RX5, "settings", "LBlackBars$Row;"), (RX5, 28, RX8, "FIRST_WIDTHS", "[I"), (RX5, 39, RX8, "FIRST_VALUES", "[I")]
def kN (U : State) : Prop := (∀ q ∈ kNF, va_Nw (.fieldLinkNest q.1 q.2.1 q.2.2.1 q.2.2.2.1 q.2.2.2.2 RX8) U) ∧ va_Nw (.methodLinkNest RX6 32 yX8_isLetter RX8) U ∧ va_Nw (.methodLinkNest RX7 52 yX8_isLetter RX8) U
theorem kN.warm {s U : State} (hW : s.WarmedH U.vm) (h : kN s) : kN U := ⟨fun q hq => (h.1 q hq).warmF hW, h.2.1.warmM hW, h.2.2.warmM hW⟩
def kK (D : va_G) (cI cS : ClassId) (U : State) : Prop := va_K D vwCl (kTy cI cS) U ∧ kN U
theorem kK.warm {D : va_G} {cI cS : ClassId} {s U : State} (hW : s.WarmedH U.vm) (h : kK D cI cS s) : kK D cI cS U := ⟨va_K.moved hW.alike h.1, h.2.warm hW⟩
theorem kK.blind {D : va_G} {cI cS : ClassId} {U : State} {f : JFrame} {mk : MethodId} {a : Array Value} (h : kK D cI cS U) : kK D cI cS (U.calling f mk a) := ⟨va_K.moved (Vm.Alike.refl U.vm) h.1, fun q hq => (h.2.1 q hq).same rfl rfl, h.2.2.1.same rfl rfl, h.2.2.2.same rfl rfl⟩
/-- what a walk knows of its method -/
def Kx (g : kG) (cI cS : ClassId) (cc : ByteArray) (own : String) (Ts : List Cond) (nL : Nat) (rm : Room) : Prop :=
  g.1.1.tables.exec = Jvm.exec ∧ g.2.1.2.2.2.2.code = cc ∧ g.2.1.2.2.2.2.maxLocals = nL ∧ g.1.2.2.2.2.vm.findClass own = some g.2.1.1.cls ∧ (∀ w ∈ Ts, w.before g.2.1.2.1 g.1.2.2.2.2 = true) ∧ kK g.2.2.2.1 cI cS g.1.2.2.2.2 ∧ g.1.2.2.2.1 = rm ∧ g.2.2.2.2.1.1 ≤ rm.cells ∧ g.2.2.2.2.1.2 ≤ rm.slots
/-- .. and of its right to write -/
def Kw (g : kG) (Wf : kS → va_W) (A : Nat → Prop) : Prop := g.2.2.1 = va_S A g.1.2.2.2.2.heap ∧ ∀ C : kS, va_D A (Wf C)
section KJ
variable {g : kG} {cI cS : ClassId} {cc : ByteArray} {own : String} {Ts : List Cond} {nL : Nat} {rm : Room} {Wf : kS → va_W} {C C' : kS} {pc : Nat} {lv lv' : List (Option Value)} {st : List Value} {A : Nat → Prop}
theorem j_iconst (X : Kx g cI cS cc own Ts nL rm) {n : Int} {v : Int32} (hdg : decode cc pc = .ok (.iconst n, 1)) (hv : Int32.ofInt n = v) (k : J g Wf nL C (pc + 1) lv (.int v :: st)) : J g Wf nL C pc lv st := fun H locs ls hP hS hl => lv_iconst X.1 X.2.1 hdg hv (k H locs ls hP hS hl)
theorem j_bipush (X : Kx g cI cS cc own Ts nL rm) {n : Int} {v : Int32} (hdg : decode cc pc = .ok (.bipush n, 2)) (hv : (Int8.ofInt n).toInt32 = v) (k : J g Wf nL C (pc + 2) lv (.int v :: st)) : J g Wf nL C pc lv st := fun H locs ls hP hS hl => lv_bipush X.1 X.2.1 hdg hv (k H locs ls hP hS hl)
theorem j_sipush (X : Kx g cI cS cc own Ts nL rm) {n : Int} {v : Int32} (hdg : decode cc pc = .ok (.sipush n, 3)) (hv : (Int16.ofInt n).toInt32 = v) (k : J g Wf nL C (pc + 3) lv (.int v :: st)) : J g Wf nL C pc lv st := fun H locs ls hP hS hl => lv_sipush X.1 X.2.1 hdg hv (k H locs ls hP hS hl)
theorem j_iload_n (X : Kx g cI cS cc own Ts nL rm) {i : Fin 4} {x : Int32} (hdg : decode cc pc = .ok (.iload_n i, 1)) (hl : lv[(i : Nat)]? = some (some (.int x))) (k : J g Wf nL C (pc + 1) lv (.int x :: st)) : J g Wf nL C pc lv st := fun H locs ls hP hS h => lv_iload_n X.1 X.2.1 hdg rfl (h.at hl) (k H locs ls hP hS h)
theorem j_iload (X : Kx g cI cS cc own Ts nL rm) {i : Nat} {x : Int32} (hdg : decode cc pc = .ok (.iload i, 2)) (hl : lv[i]? = some (some (.int x))) (k : J g Wf nL C (pc + 2) lv (.int x :: st)) : J g Wf nL C pc lv st := fun H locs ls hP hS h => lv_iload X.1 X.2.1 hdg (h.at hl) (k H locs ls hP hS h)
theorem j_aload_n (X : Kx g cI cS cc own Ts nL rm) {i : Fin 4} {x : Nat} (hdg : decode cc pc = .ok (.aload_n i, 1)) (hl : lv[(i : Nat)]? = some (some (.ref x))) (k : J g Wf nL C (pc + 1) lv (.ref x :: st)) : J g Wf nL C pc lv st := fun H locs ls hP hS h => lv_aload_n X.1 X.2.1 hdg rfl (h.at hl) (k H locs ls hP hS h)
theorem j_aload (X : Kx g cI cS cc own Ts nL rm) {i : Nat} {x : Nat} (hdg : decode cc pc = .ok (.aload i, 2)) (hl : lv[i]? = some (some (.ref x))) (k : J g Wf nL C (pc + 2) lv (.ref x :: st)) : J g Wf nL C pc lv st := fun H locs ls hP hS h => lv_aload X.1 X.2.1 hdg (h.at hl) (k H locs ls hP hS h)
theorem j_istore_n (X : Kx g cI cS cc own Ts nL rm) {i : Fin 4} {x : Int32} (hdg : decode cc pc = .ok (.istore_n i, 1)) (hi : (i : Nat) < nL) (hl : lv.set (i : Nat) (some (.int x)) = lv') (k : J g Wf nL C (pc + 1) lv' st) (hnl : kNL lv (i : Nat) = true := by rfl) : J g Wf nL C pc lv (.int x :: st) := fun H locs ls hP hS h => lv_istore_n X.1 X.2.1 hdg rfl h.has hi rfl (fun ls' h' => k H locs ls' hP hS (hl ▸ h.set hi rfl h' hnl))
theorem j_istore (X : Kx g cI cS cc own Ts nL rm) {i : Nat} {x : Int32} (hdg : decode cc pc = .ok (.istore i, 2)) (hi : i < nL) (hl : lv.set i (some (.int x)) = lv') (k : J g Wf nL C (pc + 2) lv' st) (hnl : kNL lv i = true := by rfl) : J g Wf nL C pc lv (.int x :: st) := fun H locs ls hP hS h => lv_istore X.1 X.2.1 hdg h.has hi rfl (fun ls' h' => k H locs ls' hP hS (hl ▸ h.set hi rfl h' hnl))
theorem j_astore_n (X : Kx g cI cS cc own Ts nL rm) {i : Fin 4} {x : Nat} (hdg : decode cc pc = .ok (.astore_n i, 1)) (hi : (i : Nat) < nL) (hl : lv.set (i : Nat) (some (.ref x)) = lv') (k : J g Wf nL C (pc + 1) lv' st) (hnl : kNL lv (i : Nat) = true := by rfl) : J g Wf nL C pc lv (.ref x :: st) := fun H locs ls hP hS h => lv_astore_n X.1 X.2.1 hdg rfl h.has hi rfl (fun ls' h' => k H locs ls' hP hS (hl ▸ h.set hi rfl h' hnl))
theorem j_iinc (X : Kx g cI cS cc own Ts nL rm) {i : Nat} {n : Int} {x v : Int32} (hdg : decode cc pc = .ok (.iinc i n, 3)) (hx : lv[i]? = some (some (.int x))) (hv : x + Int32.ofInt n = v) (hi : i < nL) (hl : lv.set i (some (.int v)) = lv') (k : J g Wf nL C (pc + 3) lv' st) (hnl : kNL lv i = true := by rfl) : J g Wf nL C pc lv st := fun H locs ls hP hS h => by
  obtain ⟨j, hj⟩ := List.getElem?_of_mem (kPr_in lv 0 i _ hx)
  rw [Nat.zero_add] at hj
  exact lv_iinc X.1 X.2.1 hdg h.has hj hv hi rfl (fun ls' h' => k H locs ls' hP hS (hl ▸ h.set hi rfl h' hnl))
theorem j_iadd (X : Kx g cI cS cc own Ts nL rm) {x y : Int32} (hdg : decode cc pc = .ok (.iadd, 1)) (k : J g Wf nL C (pc + 1) lv (.int (x + y) :: st)) : J g Wf nL C pc lv (.int y :: .int x :: st) := fun H locs ls hP hS h => lv_iadd X.1 X.2.1 hdg (k H locs ls hP hS h)
theorem j_isub (X : Kx g cI cS cc own Ts nL rm) {x y : Int32} (hdg : decode cc pc = .ok (.isub, 1)) (k : J g Wf nL C (pc + 1) lv (.int (x - y) :: st)) : J g Wf nL C pc lv (.int y :: .int x :: st) := fun H locs ls hP hS h => lv_isub X.1 X.2.1 hdg (k H locs ls hP hS h)
theorem j_imul (X : Kx g cI cS cc own Ts nL rm) {x y : Int32} (hdg : decode cc pc = .ok (.imul, 1)) (k : J g Wf nL C (pc + 1) lv (.int (x * y) :: st)) : J g Wf nL C pc lv (.int y :: .int x :: st) := fun H locs ls hP hS h => lv_imul X.1 X.2.1 hdg (k H locs ls hP hS h)
theorem j_iand (X : Kx g cI cS cc own Ts nL rm) {x y : Int32} (hdg : decode cc pc = .ok (.iand, 1)) (k : J g Wf nL C (pc + 1) lv (.int (x &&& y) :: st)) : J g Wf nL C pc lv (.int y :: .int x :: st) := fun H locs ls hP hS h => lv_iand X.1 X.2.1 hdg (k H locs ls hP hS h)
theorem j_ior (X : Kx g cI cS cc own Ts nL rm) {x y : Int32} (hdg : decode cc pc = .ok (.ior, 1)) (k : J g Wf nL C (pc + 1) lv (.int (x ||| y) :: st)) : J g Wf nL C pc lv (.int y :: .int x :: st) := fun H locs ls hP hS h => lv_ior X.1 X.2.1 hdg (k H locs ls hP hS h)
theorem j_ishl (X : Kx g cI cS cc own Ts nL rm) {x y : Int32} (hdg : decode cc pc = .ok (.ishl, 1)) (k : J g Wf nL C (pc + 1) lv (.int (x <<< (y &&& 31)) :: st)) : J g Wf nL C pc lv (.int y :: .int x :: st) := fun H locs ls hP hS h => lv_ishl X.1 X.2.1 hdg (k H locs ls hP hS h)
theorem j_ishr (X : Kx g cI cS cc own Ts nL rm) {x y : Int32} (hdg : decode cc pc = .ok (.ishr, 1)) (k : J g Wf nL C (pc + 1) lv (.int (x >>> (y &&& 31)) :: st)) : J g Wf nL C pc lv (.int y :: .int x :: st) := fun H locs ls hP hS h => lv_ishr X.1 X.2.1 hdg (k H locs ls hP hS h)
theorem j_iushr (X : Kx g cI cS cc own Ts nL rm) {x y : Int32} (hdg : decode cc pc = .ok (.iushr, 1)) (k : J g Wf nL C (pc + 1) lv (.int ((x.toUInt32 >>> (y.toUInt32 &&& Int32.toUInt32 31)).toInt32) :: st)) : J g Wf nL C pc lv (.int y :: .int x :: st) := fun H locs ls hP hS h => lv_iushr X.1 X.2.1 hdg rfl (k H locs ls hP hS h)
theorem j_idiv (X : Kx g cI cS cc own Ts nL rm) {x y : Int32} (hdg : decode cc pc = .ok (.idiv, 1)) (hne : ¬ y = 0) (k : J g Wf nL C (pc + 1) lv (.int (x / y) :: st)) : J g Wf nL C pc lv (.int y :: .int x :: st) := fun H locs ls hP hS h => lv_idiv X.1 X.2.1 hdg hne (k H locs ls hP hS h)
theorem j_irem (X : Kx g cI cS cc own Ts nL rm) {x y : Int32} (hdg : decode cc pc = .ok (.irem, 1)) (hne : ¬ y = 0) (k : J g Wf nL C (pc + 1) lv (.int (x - x / y * y) :: st)) : J g Wf nL C pc lv (.int y :: .int x :: st) := fun H locs ls hP hS h => lv_irem X.1 X.2.1 hdg hne (k H locs ls hP hS h)
theorem j_dup (X : Kx g cI cS cc own Ts nL rm) {v : Value} (hdg : decode cc pc = .ok (.dup, 1)) (hv : v.category = 1) (k : J g Wf nL C (pc + 1) lv (v :: v :: st)) : J g Wf nL C pc lv (v :: st) := fun H locs ls hP hS h => lv_dup X.1 X.2.1 hdg hv (k H locs ls hP hS h)
theorem j_dup2 (X : Kx g cI cS cc own Ts nL rm) {v w : Value} (hdg : decode cc pc = .ok (.dup2, 1)) (hv : v.category = 1) (hw : w.category = 1) (k : J g Wf nL C (pc + 1) lv (v :: w :: v :: w :: st)) : J g Wf nL C pc lv (v :: w :: st) := fun H locs ls hP hS h => lv_dup2_11 X.1 X.2.1 hdg hv hw (k H locs ls hP hS h)
theorem j_goto (X : Kx g cI cS cc own Ts nL rm) {off : Int} {tgt : Nat} (hdg : decode cc pc = .ok (.goto off, 3)) (ht : (pc : Int) + off = (tgt : Int)) (k : J g Wf nL C tgt lv st) : J g Wf nL C pc lv st := fun H locs ls hP hS h => lv_goto X.1 X.2.1 hdg ht (k H locs ls hP hS h)
theorem j_if_eq (X : Kx g cI cS cc own Ts nL rm) {x : Int32} {off : Int} {tgt : Nat} (hdg : decode cc pc = .ok (.ifCond .eq off, 3)) (ht : (pc : Int) + off = (tgt : Int)) (kt : x = 0 → J g Wf nL C tgt lv st) (kf : ¬ x = 0 → J g Wf nL C (pc + 3) lv st) : J g Wf nL C pc lv (.int x :: st) := fun H locs ls hP hS h => lv_if_eq X.1 X.2.1 hdg ht (fun q => kt q H locs ls hP hS h) (fun q => kf q H locs ls hP hS h)
theorem j_icmp_eq (X : Kx g cI cS cc own Ts nL rm) {x y : Int32} {off : Int} {tgt : Nat} (hdg : decode cc pc = .ok (.if_icmp .eq off, 3)) (ht : (pc : Int) + off = (tgt : Int)) (kt : x = y → J g Wf nL C tgt lv st) (kf : ¬ x = y → J g Wf nL C (pc + 3) lv st) : J g Wf nL C pc lv (.int y :: .int x :: st) := fun H locs ls hP hS h => lv_icmp_eq X.1 X.2.1 hdg ht (fun q => kt q H locs ls hP hS h) (fun q => kf q H locs ls hP hS h)
theorem j_if_ne (X : Kx g cI cS cc own Ts nL rm) {x : Int32} {off : Int} {tgt : Nat} (hdg : decode cc pc = .ok (.ifCond .ne off, 3)) (ht : (pc : Int) + off = (tgt : Int)) (kt : ¬ x = 0 → J g Wf nL C tgt lv st) (kf : x = 0 → J g Wf nL C (pc + 3) lv st) : J g Wf nL C pc lv (.int x :: st) := fun H locs ls hP hS h => lv_if_ne X.1 X.2.1 hdg ht (fun q => kt q H locs ls hP hS h) (fun q => kf q H locs ls hP hS h)
theorem j_icmp_ne (X : Kx g cI cS cc own Ts nL rm) {x y : Int32} {off : Int} {tgt : Nat} (hdg : decode cc pc = .ok (.if_icmp .ne off, 3)) (ht : (pc : Int) + off = (tgt : Int)) (kt : ¬ x = y → J g Wf nL C tgt lv st) (kf : x = y → J g Wf nL C (pc + 3) lv st) : J g Wf nL C pc lv (.int y :: .int x :: st) := fun H locs ls hP hS h => lv_icmp_ne X.1 X.2.1 hdg ht (fun q => kt q H locs ls hP hS h) (fun q => kf q H locs ls hP hS h)
theorem j_if_lt (X : Kx g cI cS cc own Ts nL rm) {x : Int32} {off : Int} {tgt : Nat} (hdg : decode cc pc = .ok (.ifCond .lt off, 3)) (ht : (pc : Int) + off = (tgt : Int)) (kt : x < 0 → J g Wf nL C tgt lv st) (kf : ¬ x < 0 → J g Wf nL C (pc + 3) lv st) : J g Wf nL C pc lv (.int x :: st) := fun H locs ls hP hS h => lv_if_lt X.1 X.2.1 hdg ht (fun q => kt q H locs ls hP hS h) (fun q => kf q H locs ls hP hS h)
theorem j_icmp_lt (X : Kx g cI cS cc own Ts nL rm) {x y : Int32} {off : Int} {tgt : Nat} (hdg : decode cc pc = .ok (.if_icmp .lt off, 3)) (ht : (pc : Int) + off = (tgt : Int)) (kt : x < y → J g Wf nL C tgt lv st) (kf : ¬ x < y → J g Wf nL C (pc + 3) lv st) : J g Wf nL C pc lv (.int y :: .int x :: st) := fun H locs ls hP hS h => lv_icmp_lt X.1 X.2.1 hdg ht (fun q => kt q H locs ls hP hS h) (fun q => kf q H locs ls hP hS h)
theorem j_if_ge (X : Kx g cI cS cc own Ts nL rm) {x : Int32} {off : Int} {tgt : Nat} (hdg : decode cc pc = .ok (.ifCond .ge off, 3)) (ht : (pc : Int) + off = (tgt : Int)) (kt : 0 ≤ x → J g Wf nL C tgt lv st) (kf : ¬ 0 ≤ x → J g Wf nL C (pc + 3) lv st) : J g Wf nL C pc lv (.int x :: st) := fun H locs ls hP hS h => lv_if_ge X.1 X.2.1 hdg ht (fun q => kt q H locs ls hP hS h) (fun q => kf q H locs ls hP hS h)
theorem j_icmp_ge (X : Kx g cI cS cc own Ts nL rm) {x y : Int32} {off : Int} {tgt : Nat} (hdg : decode cc pc = .ok (.if_icmp .ge off, 3)) (ht : (pc : Int) + off = (tgt : Int)) (kt : y ≤ x → J g Wf nL C tgt lv st) (kf : ¬ y ≤ x → J g Wf nL C (pc + 3) lv st) : J g Wf nL C pc lv (.int y :: .int x :: st) := fun H locs ls hP hS h => lv_icmp_ge X.1 X.2.1 hdg ht (fun q => kt q H locs ls hP hS h) (fun q => kf q H locs ls hP hS h)
theorem j_if_gt (X : Kx g cI cS cc own Ts nL rm) {x : Int32} {off : Int} {tgt : Nat} (hdg : decode cc pc = .ok (.ifCond .gt off, 3)) (ht : (pc : Int) + off = (tgt : Int)) (kt : 0 < x → J g Wf nL C tgt lv st) (kf : ¬ 0 < x → J g Wf nL C (pc + 3) lv st) : J g Wf nL C pc lv (.int x :: st) := fun H locs ls hP hS h => lv_if_gt X.1 X.2.1 hdg ht (fun q => kt q H locs ls hP hS h) (fun q => kf q H locs ls hP hS h)
theorem j_icmp_gt (X : Kx g cI cS cc own Ts nL rm) {x y : Int32} {off : Int} {tgt : Nat} (hdg : decode cc pc = .ok (.if_icmp .gt off, 3)) (ht : (pc : Int) + off = (tgt : Int)) (kt : y < x → J g Wf nL C tgt lv st) (kf : ¬ y < x → J g Wf nL C (pc + 3) lv st) : J g Wf nL C pc lv (.int y :: .int x :: st) := fun H locs ls hP hS h => lv_icmp_gt X.1 X.2.1 hdg ht (fun q => kt q H locs ls hP hS h) (fun q => kf q H locs ls hP hS h)
theorem j_if_le (X : Kx g cI cS cc own Ts nL rm) {x : Int32} {off : Int} {tgt : Nat} (hdg : decode cc pc = .ok (.ifCond .le off, 3)) (ht : (pc : Int) + off = (tgt : Int)) (kt : x ≤ 0 → J g Wf nL C tgt lv st) (kf : ¬ x ≤ 0 → J g Wf nL C (pc + 3) lv st) : J g Wf nL C pc lv (.int x :: st) := fun H locs ls hP hS h => lv_if_le X.1 X.2.1 hdg ht (fun q => kt q H locs ls hP hS h) (fun q => kf q H locs ls hP hS h)
theorem j_icmp_le (X : Kx g cI cS cc own Ts nL rm) {x y : Int32} {off : Int} {tgt : Nat} (hdg : decode cc pc = .ok (.if_icmp .le off, 3)) (ht : (pc : Int) + off = (tgt : Int)) (kt : x ≤ y → J g Wf nL C tgt lv st) (kf : ¬ x ≤ y → J g Wf nL C (pc + 3) lv st) : J g Wf nL C pc lv (.int y :: .int x :: st) := fun H locs ls hP hS h => lv_icmp_le X.1 X.2.1 hdg ht (fun q => kt q H locs ls hP hS h) (fun q => kf q H locs ls hP hS h)
theorem j_tabIn (X : Kx g cI cS cc own Ts nL rm) {dflt lo hi : Int} {offs : Array Int} {len : Nat} {x v : Int32} {off : Int} {tgt : Nat} (hdg : decode cc pc = .ok (.tableswitch dflt lo hi offs, len)) (hx : x = v) (h1 : ¬ v.toInt < lo) (h2 : ¬ hi < v.toInt) (ho : offs[(v.toInt - lo).toNat]? = some off) (ht : (pc : Int) + off = (tgt : Int)) (k : J g Wf nL C tgt lv st) : J g Wf nL C pc lv (.int x :: st) := fun H locs ls hP hS h => by
  subst hx
  exact lv_tableIn X.1 X.2.1 hdg h1 h2 ho ht (k H locs ls hP hS h)
theorem j_tabOut (X : Kx g cI cS cc own Ts nL rm) {dflt lo hi : Int} {offs : Array Int} {len : Nat} {x : Int32} {tgt : Nat} (hdg : decode cc pc = .ok (.tableswitch dflt lo hi offs, len)) (h : x.toInt < lo ∨ hi < x.toInt) (ht : (pc : Int) + dflt = (tgt : Int)) (k : J g Wf nL C tgt lv st) : J g Wf nL C pc lv (.int x :: st) := fun H locs ls hP hS hl => lv_tableOut X.1 X.2.1 hdg h ht (k H locs ls hP hS hl)
theorem j_get (X : Kx g cI cS cc own Ts nL rm) {Cn : String} {T : u_T} {N ci index : Nat} (hin : ∀ w ∈ u_ws Cn T N, w ∈ Ts) {b q0 : Nat} {fs : List Value} (he : (Wf C)[q0]? = some (b, .inr (ci, fs))) (hc : vwCl[ci]? = some (Cn, T, N)) (k : Nat) (hk : k < N) (hlk : Cond.fieldLink own index (T k).1 (T k).2.1 (T k).2.2.1 ∈ Ts) {v : Value} (hv : fs[k]? = some v) (hdg : decode cc pc = .ok (.getfield index, 3)) (kk : J g Wf nL C (pc + 3) lv (v :: st)) : J g Wf nL C pc lv (.ref b :: st) := fun H locs ls hP hS h => va_get X.1 X.2.1 X.2.2.2.2.1 hin X.2.2.2.1 X.2.2.2.2.2.1.1 hP q0 he hc k hk (X.2.2.2.2.1 _ hlk) (fun _ h9 => h9) hv hdg (kk H locs ls hP hS h)
theorem j_getN (X : Kx g cI cS cc own Ts nL rm) {Cn : String} {T : u_T} {N ci index : Nat} (hin : ∀ w ∈ u_ws Cn T N, w ∈ Ts) {b q0 : Nat} {fs : List Value} (he : (Wf C)[q0]? = some (b, .inr (ci, fs))) (hc : vwCl[ci]? = some (Cn, T, N)) (k : Nat) (hk : k < N) (hlk : (own, index, (T k).1, (T k).2.1, (T k).2.2.1) ∈ kNF) {v : Value} (hv : fs[k]? = some v) (hdg : decode cc pc = .ok (.getfield index, 3)) (kk : J g Wf nL C (pc + 3) lv (v :: st)) : J g Wf nL C pc lv (.ref b :: st) := fun H locs ls hP hS h => va_getN X.1 X.2.1 X.2.2.2.2.1 hin X.2.2.2.1 X.2.2.2.2.2.1.1 hP q0 he hc k hk (va_Nw.use rfl (X.2.2.2.2.2.1.2.1 _ hlk)) (fun _ h9 => h9) hv hdg (kk H locs ls hP hS h)
theorem j_put (X : Kx g cI cS cc own Ts nL rm) (Y : Kw g Wf A) {Cn : String} {T : u_T} {N ci index : Nat} (hin : ∀ w ∈ u_ws Cn T N, w ∈ Ts) (ty0 : Nat → FieldType) (hty : ∀ k, k < N → parseFieldDescriptor (T k).2.2.1 = some (ty0 k)) (hnm : ∀ a, a < N → ∀ b, b < N → a ≠ b → (T a).2.1 ≠ (T b).2.1) {b q0 : Nat} {fs : List Value} (he : (Wf C)[q0]? = some (b, .inr (ci, fs))) (hc : vwCl[ci]? = some (Cn, T, N)) (k : Nat) (hk : k < N) (hlk : Cond.fieldLink own index (T k).1 (T k).2.1 (T k).2.2.1 ∈ Ts) (hfin : (T k).2.2.2 = false) {v : Int32} (hd : parseFieldDescriptor (T k).2.2.1 = some .int) (hl : k < fs.length) (hdg : decode cc pc = .ok (.putfield index, 3)) (hset : (Wf C).set q0 (b, .inr (ci, fs.set k (.int v))) = Wf C') (kk : J g Wf nL C' (pc + 3) lv st) : J g Wf nL C pc lv (.int v :: .ref b :: st) := fun H locs ls hP hS h =>
  va_put X.1 X.2.1 X.2.2.2.2.1 hin ty0 hty hnm X.2.2.2.1 X.2.2.2.2.2.1.1 hP (Y.2 C) (Eq.mp (congrFun (congrFun Y.1 H) locs) hS) q0 he hc k hk (X.2.2.2.2.1 _ hlk) (fun _ h9 => h9) hfin hd rfl rfl hl hdg (fun H1 locs1 hP1 _ hS1 => kk H1 locs1 ls (by rw [← hset]; exact hP1) (Eq.mpr (congrFun (congrFun Y.1 H1) locs1) hS1) h)
theorem j_alen (X : Kx g cI cS cc own Ts nL rm) {b q0 : Nat} {cA : ClassId} {y : vp_A} (ha : (Wf C)[q0]? = some (b, .inl (cA, y))) (t0 : Nat) {ty : FieldType} (ht : (kTy cI cS)[t0]? = some (cA, ty)) {v : Int32} (hv : Int32.ofNat y.1 = v) (hdg : decode cc pc = .ok (.arraylength, 1)) (kk : J g Wf nL C (pc + 1) lv (.int v :: st)) : J g Wf nL C pc lv (.ref b :: st) := fun H locs ls hP hS h => va_alen X.1 X.2.1 X.2.2.2.2.2.1.1 hP q0 t0 ha ht hv hdg (kk H locs ls hP hS h)
theorem j_iald (X : Kx g cI cS cc own Ts nL rm) {b q0 n : Nat} {f : Nat → Int32} (ha : (Wf C)[q0]? = some (b, .inl (cI, n, .inl f))) {i : Int32} (hin : vp_in i n) (hdg : decode cc pc = .ok (.iaload, 1)) (kk : J g Wf nL C (pc + 1) lv (.int (f i.toNatClampNeg) :: st)) : J g Wf nL C pc lv (.int i :: .ref b :: st) := fun H locs ls hP hS h => va_iald X.1 X.2.1 X.2.2.2.2.2.1.1 hP q0 0 ha rfl hin hdg (kk H locs ls hP hS h)
theorem j_iast (X : Kx g cI cS cc own Ts nL rm) (Y : Kw g Wf A) {b q0 n : Nat} {f : Nat → Int32} (ha : (Wf C)[q0]? = some (b, .inl (cI, n, .inl f))) {i x : Int32} (hin : vp_in i n) (hdg : decode cc pc = .ok (.iastore, 1)) (hset : (Wf C).set q0 (b, .inl (cI, n, .inl (upd f i.toNatClampNeg x))) = Wf C') (kk : J g Wf nL C' (pc + 1) lv st) : J g Wf nL C pc lv (.int x :: .int i :: .ref b :: st) := fun H locs ls hP hS h =>
  va_iast X.1 X.2.1 X.2.2.2.2.2.1.1 hP (Y.2 C) (Eq.mp (congrFun (congrFun Y.1 H) locs) hS) q0 0 ha rfl hin hdg (fun H1 locs1 hP1 _ hS1 => kk H1 locs1 ls (by rw [← hset]; exact hP1) (Eq.mpr (congrFun (congrFun Y.1 H1) locs1) hS1) h)
theorem j_aald (X : Kx g cI cS cc own Ts nL rm) {b q0 n v : Nat} {f : Nat → Option Nat} (ha : (Wf C)[q0]? = some (b, .inl (cS, n, .inr (.inr (.inr (.inr f)))))) {i : Int32} (hin : vp_in i n) (hv : f i.toNatClampNeg = some v) (hdg : decode cc pc = .ok (.aaload, 1)) (kk : J g Wf nL C (pc + 1) lv (.ref v :: st)) : J g Wf nL C pc lv (.int i :: .ref b :: st) := fun H locs ls hP hS h => va_aldq X.1 X.2.1 X.2.2.2.2.2.1.1 hP q0 1 ha rfl hin hdg (by rw [hv]; exact kk H locs ls hP hS h)
theorem j_aast (X : Kx g cI cS cc own Ts nL rm) (Y : Kw g Wf A) {b q0 n qk v : Nat} {vs : List Value} {f : Nat → Option Nat} (ha : (Wf C)[q0]? = some (b, .inl (cS, n, .inr (.inr (.inr (.inr f)))))) (hv : (Wf C)[qk]? = some (v, .inr (5, vs))) {i : Int32} (hin : vp_in i n) (hdg : decode cc pc = .ok (.aastore, 1)) (hset : (Wf C).set q0 (b, .inl (cS, n, .inr (.inr (.inr (.inr (va_up f i.toNatClampNeg (some v))))))) = Wf C') (kk : J g Wf nL C' (pc + 1) lv st) : J g Wf nL C pc lv (.ref v :: .int i :: .ref b :: st) := fun H locs ls hP hS h =>
  va_astq X.1 X.2.1 X.2.2.2.2.2.1.1 hP (Y.2 C) (Eq.mp (congrFun (congrFun Y.1 H) locs) hS) q0 1 qk 5 (r := (RX5, TX5, 5)) ha rfl hv rfl hin hdg (fun H1 locs1 hP1 _ hS1 => kk H1 locs1 ls (by rw [← hset]; exact hP1) (Eq.mpr (congrFun (congrFun Y.1 H1) locs1) hS1) h)
theorem j_nonnull (X : Kx g cI cS cc own Ts nL rm) {x : Nat} {off : Int} (hdg : decode cc pc = .ok (.ifnull off, 3)) (k : J g Wf nL C (pc + 3) lv st) : J g Wf nL C pc lv (.ref x :: st) := fun H locs ls hP hS h => lv_ifnull X.1 X.2.1 hdg (k H locs ls hP hS h)
theorem j_null (X : Kx g cI cS cc own Ts nL rm) {off : Int} {tgt : Nat} (hdg : decode cc pc = .ok (.ifnull off, 3)) (ht : (pc : Int) + off = (tgt : Int)) (k : J g Wf nL C tgt lv st) : J g Wf nL C pc lv (.null :: st) := fun H locs ls hP hS h => lv_ifnullN X.1 X.2.1 hdg ht (k H locs ls hP hS h)
theorem j_copyi (X : Kx g cI cS cc own Ts nL rm) (Y : Kw g Wf A) {index : Nat} (hlk : Cond.methodLink own index arraycopyName ∈ Ts) (hnat : Cond.native arraycopyName ∈ Ts) (hstat : Cond.static arraycopyName ∈ Ts) (hini : Cond.initialized "java/lang/System" ∈ Ts) {b0 b q0 q1 n0 n1 : Nat} {f f1 : Nat → Int32} (ha0 : (Wf C)[q0]? = some (b0, .inl (cI, n0, .inl f))) (ha1 : (Wf C)[q1]? = some (b, .inl (cI, n1, .inl f1))) {n : Int32} (h3 : ¬ n < 0) (h4 : n.toNatClampNeg ≤ n0) (h5 : n.toNatClampNeg ≤ n1) (hfr : 1 ≤ rm.frames) (hlo : (st.map fun v => v.category).sum + (nativeFrameWords "java/lang/System" "arraycopy" 5 + 11) ≤ rm.locals) (hdg : decode cc pc = .ok (.invokestatic index, 3)) (hset : (Wf C).set q1 (b, .inl (cI, n1, .inl (va_cpy f f1 0 0 n.toNatClampNeg))) = Wf C') (kk : J g Wf nL C' (pc + 3) lv st) : J g Wf nL C pc lv (.int n :: .int 0 :: .ref b :: .int 0 :: .ref b0 :: st) := fun H locs ls hP hS h =>
  va_copyi X.1 X.2.1 (X.2.2.1.trans h.2.1.symm) X.2.2.2.1 (X.2.2.2.2.1 _ hlk) (X.2.2.2.2.1 _ hnat) (X.2.2.2.2.1 _ hstat) (X.2.2.2.2.1 _ hini) X.2.2.2.2.2.1.1 hP (Y.2 C) (Eq.mp (congrFun (congrFun Y.1 H) locs) hS) q0 q1 0 0 (ty := .int) ha0 ha1 rfl rfl rfl (sp := 0) (dp := 0) (by decide) (by decide) h3 (by rw [show (0 : Int32).toNatClampNeg = 0 from by decide, Nat.zero_add]; exact h4) (by rw [show (0 : Int32).toNatClampNeg = 0 from by decide, Nat.zero_add]; exact h5) (fun _ _ => rfl) (by rw [X.2.2.2.2.2.2.1]; exact hfr) (by rw [X.2.2.2.2.2.2.1]; exact hlo) hdg (fun H1 locs1 hP1 _ hS1 => kk H1 locs1 ls (by rw [← hset]; exact hP1) (Eq.mpr (congrFun (congrFun Y.1 H1) locs1) hS1) h)
theorem j_mmax (X : Kx g cI cS cc own Ts nL rm) {index : Nat} (hlk : Cond.methodLink own index Lib.Math.max.name ∈ Ts) (hstat : Cond.static Lib.Math.max.name ∈ Ts) (hini : Cond.initialized "java/lang/Math" ∈ Ts) (hcode : Cond.code Lib.Math.max.name Lib.Math.max.code 2 (some .int) ∈ Ts) (hfr : 1 ≤ rm.frames) (hlo : (st.map fun v => v.category).sum + 13 ≤ rm.locals) {x y : Int32} (hdg : decode cc pc = .ok (.invokestatic index, 3)) (kk : J g Wf nL C (pc + 3) lv (.int (if x < y then y else x) :: st)) : J g Wf nL C pc lv (.int y :: .int x :: st) := fun H locs ls hP hS h =>
  va_mmax X.1 X.2.1 (X.2.2.1.trans h.2.1.symm) X.2.2.2.1 (X.2.2.2.2.1 _ hlk) (X.2.2.2.2.1 _ hstat) (X.2.2.2.2.1 _ hini) (X.2.2.2.2.1 _ hcode) (by rw [X.2.2.2.2.2.2.1]; exact hfr) (by rw [X.2.2.2.2.2.2.1]; exact hlo) (by rw [X.2.2.2.2.2.2.1]; exact X.2.2.2.2.2.2.2.1) (by rw [X.2.2.2.2.2.2.1]; exact X.2.2.2.2.2.2.2.2) hdg (kk H locs ls hP hS h)
theorem j_mmin (X : Kx g cI cS cc own Ts nL rm) {index : Nat} (hlk : Cond.methodLink own index Lib.Math.min.name ∈ Ts) (hstat : Cond.static Lib.Math.min.name ∈ Ts) (hini : Cond.initialized "java/lang/Math" ∈ Ts) (hcode : Cond.code Lib.Math.min.name Lib.Math.min.code 2 (some .int) ∈ Ts) (hfr : 1 ≤ rm.frames) (hlo : (st.map fun v => v.category).sum + 13 ≤ rm.locals) {x y : Int32} (hdg : decode cc pc = .ok (.invokestatic index, 3)) (kk : J g Wf nL C (pc + 3) lv (.int (if y < x then y else x) :: st)) : J g Wf nL C pc lv (.int y :: .int x :: st) := fun H locs ls hP hS h =>
  va_mmin X.1 X.2.1 (X.2.2.1.trans h.2.1.symm) X.2.2.2.1 (X.2.2.2.2.1 _ hlk) (X.2.2.2.2.1 _ hstat) (X.2.2.2.2.1 _ hini) (X.2.2.2.2.1 _ hcode) (by rw [X.2.2.2.2.2.2.1]; exact hfr) (by rw [X.2.2.2.2.2.2.1]; exact hlo) (by rw [X.2.2.2.2.2.2.1]; exact X.2.2.2.2.2.2.2.1) (by rw [X.2.2.2.2.2.2.1]; exact X.2.2.2.2.2.2.2.2) hdg (kk H locs ls hP hS h)
theorem j_ldcw (X : Kx g cI cS cc own Ts nL rm) {index : Nat} {v : Int32} (hlk : Cond.constant own index v ∈ Ts) (hdg : decode cc pc = .ok (.ldc_w index, 3)) (kk : J g Wf nL C (pc + 3) lv (.int v :: st)) : J g Wf nL C pc lv st := fun H locs ls hP hS h => lv_ldcw X.1 X.2.1 X.2.2.2.1 (X.2.2.2.2.1 _ hlk) hdg (kk H locs ls hP hS h)
end KJ
/-! contracts: a reader that answers an int; a writer; a writer that answers an int; a static function -/
def kPc (D : va_G) (cI cS : ClassId) (Wf : kS → va_W) (C : kS) (av : List Value) : Array Value → State → Prop := va_Pc av (fun U => va_P D vwCl (Wf C) U.heap ∧ kK D cI cS U)
def kPp (D : va_G) (cI cS : ClassId) (av : List Value) : Array Value → State → Prop := va_Pc av (fun U => kK D cI cS U)
def mI (l : Launch) (y : MethodName) (ws : List Cond) (rm : Room) (D : va_G) (cI cS : ClassId) (Wf : kS → va_W) (C : kS) (av : List Value) (r : Int32) : Prop := Met l y ws rm (kPc D cI cS Wf C av) (vp_Si (fun x => x = r)) 0 0 (fun _ => False)
def mV (l : Launch) (y : MethodName) (ws : List Cond) (rm : Room) (D : va_G) (cI cS : ClassId) (Wf : kS → va_W) (A : Nat → Prop) (C : kS) (av : List Value) (C' : kS) : Prop := Met l y ws rm (kPc D cI cS Wf C av) (va_Qv (fun _ : Unit => True) (fun _ t => va_P D vwCl (Wf C') t.heap) A) 0 0 A
def mW (l : Launch) (y : MethodName) (ws : List Cond) (rm : Room) (D : va_G) (cI cS : ClassId) (Wf : kS → va_W) (A : Nat → Prop) (C : kS) (av : List Value) (r : Int32) (C' : kS) : Prop := Met l y ws rm (kPc D cI cS Wf C av) (va_Qi (fun x (_ : Unit) => x = r) (fun _ t => va_P D vwCl (Wf C') t.heap) A) 0 0 A
def mP (l : Launch) (y : MethodName) (ws : List Cond) (rm : Room) (D : va_G) (cI cS : ClassId) (av : List Value) (r : Int32) : Prop := Met l y ws rm (kPp D cI cS av) (vp_Si (fun x => x = r)) 0 0 (fun _ => False)
abbrev kHd (y : MethodName) (n : Nat) : Prop := y.cls ≠ "java/lang/invoke/MethodHandle" ∧ y.cls ≠ "java/lang/invoke/VarHandle" ∧ (parseMethodDescriptor y.desc).map (fun d => d.parameters.length) = some n
abbrev kRm (rmc rm : Room) (maxL : Nat) : Prop := rmc.frames + 1 ≤ rm.frames ∧ 8 + (maxL + 11) + rmc.locals ≤ rm.locals
section KC
variable {g : kG} {cI cS : ClassId} {cc : ByteArray} {own : String} {Ts : List Cond} {nL : Nat} {rm : Room} {Wf : kS → va_W} {C C' : kS} {pc : Nat} {lv lv' : List (Option Value)} {st st0 : List Value} {A : Nat → Prop}
variable {y : MethodName} {wsc wsc' : List Cond} {rmc : Room} {bytes : ByteArray} {maxL index : Nat} {ret : Option FieldType} {As : List Value} {b : Nat} {r : Int32} {Cn : String}
theorem j_callI (X : Kx g cI cS cc own Ts nL rm) (hM : mI g.1.2.1 y wsc rmc g.2.2.2.1 cI cS Wf C (.ref b :: As) r) (hG : GoodIn Ts (wsV own index Cn y wsc)) (hw : wsc = Cond.code y bytes maxL ret :: wsc') (h0 : rmc.cells = 0 ∧ rmc.slots = 0) {n : Nat} (hC : y.cls = Cn) (hd : kHd y n) (hR : kRm rmc rm maxL) {q0 ci : Nat} {fs : List Value} {qq : vw_C} (he : (Wf C)[q0]? = some (b, .inr (ci, fs))) (hci : vwCl[ci]? = some qq) (hqn : qq.1 = Cn) (hn : As.length = n) (hsum : (st.map fun v => v.category).sum ≤ 8) (hst : st0 = As.reverse ++ .ref b :: st) (hdg : decode cc pc = .ok (.invokevirtual index, 3)) (kk : J g Wf nL C (pc + 3) lv (.int r :: st)) : J g Wf nL C pc lv st0 := by
  intro H locs ls hP hS hl
  subst hst
  have hk := X.2.2.2.2.2.1
  refine vp_callSi (W.runV (As := As) (rest := st) (nL := nL) ⟨X.1, X.2.1, X.2.2.1, X.2.2.2.1, X.2.2.2.2.1⟩ hM (cwV n X.2.2.2.2.1 hG hw h0.1 h0.2 ⟨hC, hd⟩ (by rw [X.2.2.2.2.2.2.1]; exact hR)) ⟨fun a U f mk q => ⟨q.1, q.2.1, q.2.2.blind⟩, ?_, fun U hU hW => ⟨rfl, by rw [hU]; exact hP, hk.warm hW⟩⟩ rfl hn hl.2.1 rfl (lv_room hsum) hdg ⟨by rw [X.2.2.2.2.2.2.1]; exact X.2.2.2.2.2.2.2.1, by rw [X.2.2.2.2.2.2.1]; exact X.2.2.2.2.2.2.2.2⟩) (fun r' hr' => ?_)
  · obtain ⟨cell, a1, a2, a3⟩ := va_recv hk.1 hP hci he
    exact ⟨cell, a1, a2, hqn ▸ a3⟩
  · subst hr'
    exact kk H locs ls hP hS hl
theorem j_callV (X : Kx g cI cS cc own Ts nL rm) (Y : Kw g Wf A) (hM : mV g.1.2.1 y wsc rmc g.2.2.2.1 cI cS Wf A C (.ref b :: As) C') (hG : GoodIn Ts (wsV own index Cn y wsc)) (hw : wsc = Cond.code y bytes maxL ret :: wsc') (h0 : rmc.cells = 0 ∧ rmc.slots = 0) {n : Nat} (hC : y.cls = Cn) (hd : kHd y n) (hR : kRm rmc rm maxL) {q0 ci : Nat} {fs : List Value} {qq : vw_C} (he : (Wf C)[q0]? = some (b, .inr (ci, fs))) (hci : vwCl[ci]? = some qq) (hqn : qq.1 = Cn) (hn : As.length = n) (hsum : (st.map fun v => v.category).sum ≤ 8) (hst : st0 = As.reverse ++ .ref b :: st) (hdg : decode cc pc = .ok (.invokevirtual index, 3)) (kk : J g Wf nL C' (pc + 3) lv st) : J g Wf nL C pc lv st0 := by
  intro H locs ls hP hS hl
  subst hst
  have hk := X.2.2.2.2.2.1
  refine va_callv (va_runV (As := As) (rest := st) (nL := nL) ⟨X.1, X.2.1, X.2.2.1, X.2.2.2.1, X.2.2.2.2.1⟩ hM (cwV n X.2.2.2.2.1 hG hw h0.1 h0.2 ⟨hC, hd⟩ (by rw [X.2.2.2.2.2.2.1]; exact hR)) ⟨fun a U f mk q => ⟨q.1, q.2.1, q.2.2.blind⟩, ?_, fun U hU hW => ⟨rfl, by rw [hU]; exact hP, hk.warm hW⟩⟩ rfl hn hl.2.1 rfl (lv_room hsum) hdg ⟨by rw [X.2.2.2.2.2.2.1]; exact X.2.2.2.2.2.2.2.1, by rw [X.2.2.2.2.2.2.1]; exact X.2.2.2.2.2.2.2.2⟩) (Eq.mp (congrFun (congrFun Y.1 H) locs) hS) (fun _ _ h => h) (fun _ h => h) (fun u t H1 locs1 ht hvm hw hB hz hk1 hS1 => ?_)
  · obtain ⟨cell, a1, a2, a3⟩ := va_recv hk.1 hP hci he
    exact ⟨cell, a1, a2, hqn ▸ a3⟩
  · exact kk H1 locs1 ls (by rw [← ht]; exact hB) (Eq.mpr (congrFun (congrFun Y.1 H1) locs1) hS1) hl
theorem j_callW (X : Kx g cI cS cc own Ts nL rm) (Y : Kw g Wf A) (hM : mW g.1.2.1 y wsc rmc g.2.2.2.1 cI cS Wf A C (.ref b :: As) r C') (hG : GoodIn Ts (wsV own index Cn y wsc)) (hw : wsc = Cond.code y bytes maxL ret :: wsc') (h0 : rmc.cells = 0 ∧ rmc.slots = 0) {n : Nat} (hC : y.cls = Cn) (hd : kHd y n) (hR : kRm rmc rm maxL) {q0 ci : Nat} {fs : List Value} {qq : vw_C} (he : (Wf C)[q0]? = some (b, .inr (ci, fs))) (hci : vwCl[ci]? = some qq) (hqn : qq.1 = Cn) (hn : As.length = n) (hsum : (st.map fun v => v.category).sum ≤ 8) (hst : st0 = As.reverse ++ .ref b :: st) (hdg : decode cc pc = .ok (.invokevirtual index, 3)) (kk : J g Wf nL C' (pc + 3) lv (.int r :: st)) : J g Wf nL C pc lv st0 := by
  intro H locs ls hP hS hl
  subst hst
  have hk := X.2.2.2.2.2.1
  refine va_calli (va_runV (As := As) (rest := st) (nL := nL) ⟨X.1, X.2.1, X.2.2.1, X.2.2.2.1, X.2.2.2.2.1⟩ hM (cwV n X.2.2.2.2.1 hG hw h0.1 h0.2 ⟨hC, hd⟩ (by rw [X.2.2.2.2.2.2.1]; exact hR)) ⟨fun a U f mk q => ⟨q.1, q.2.1, q.2.2.blind⟩, ?_, fun U hU hW => ⟨rfl, by rw [hU]; exact hP, hk.warm hW⟩⟩ rfl hn hl.2.1 rfl (lv_room hsum) hdg ⟨by rw [X.2.2.2.2.2.2.1]; exact X.2.2.2.2.2.2.2.1, by rw [X.2.2.2.2.2.2.1]; exact X.2.2.2.2.2.2.2.2⟩) (Eq.mp (congrFun (congrFun Y.1 H) locs) hS) (fun _ _ h => h) (fun _ h => h) (fun r' u t H1 locs1 ht hvm hw hB hz hk1 hS1 => ?_)
  · obtain ⟨cell, a1, a2, a3⟩ := va_recv hk.1 hP hci he
    exact ⟨cell, a1, a2, hqn ▸ a3⟩
  · have hw : r' = r := hw
    subst hw
    exact kk H1 locs1 ls (by rw [← ht]; exact hB) (Eq.mpr (congrFun (congrFun Y.1 H1) locs1) hS1) hl
theorem j_callP (X : Kx g cI cS cc own Ts nL rm) (hM : mP g.1.2.1 y wsc rmc g.2.2.2.1 cI cS As r) (hG : GoodIn Ts (va_wsS own index y wsc)) (hw : wsc = Cond.code y bytes maxL ret :: wsc') (h0 : rmc.cells = 0 ∧ rmc.slots = 0) {n : Nat} (hd : kHd y n) (hR : kRm rmc rm maxL) (hn : As.length = n) (hsum : (st.map fun v => v.category).sum ≤ 8) (hst : st0 = As.reverse ++ st) (hdg : decode cc pc = .ok (.invokestatic index, 3)) (kk : J g Wf nL C (pc + 3) lv (.int r :: st)) : J g Wf nL C pc lv st0 := by
  intro H locs ls hP hS hl
  subst hst
  have hk := X.2.2.2.2.2.1
  refine vp_callSi (W.runS (As := As) (rest := st) (nL := nL) ⟨X.1, X.2.1, X.2.2.1, X.2.2.2.1, X.2.2.2.2.1⟩ hM (va_cwS n X.2.2.2.2.1 hG hw h0.1 h0.2 hd (by rw [X.2.2.2.2.2.2.1]; exact hR)) ⟨fun a U f mk q => ⟨q.1, q.2.blind⟩, fun U hU hW => ⟨rfl, hk.warm hW⟩⟩ rfl hn hl.2.1 rfl (lv_room hsum) hdg ⟨by rw [X.2.2.2.2.2.2.1]; exact X.2.2.2.2.2.2.2.1, by rw [X.2.2.2.2.2.2.1]; exact X.2.2.2.2.2.2.2.2⟩) (fun r' hr' => ?_)
  subst hr'
  exact kk H locs ls hP hS hl
theorem j_callN (X : Kx g cI cS cc own Ts nL rm) (hM : mP g.1.2.1 y wsc rmc g.2.2.2.1 cI cS As r) (hG : GoodIn Ts wsc) (hw : wsc = Cond.code y bytes maxL ret :: wsc') (h0 : rmc.cells = 0 ∧ rmc.slots = 0) {n : Nat} {host : String} (hl0 : va_Nw (.methodLinkNest own index y host) g.1.2.2.2.2) (hini : Cond.initialized y.cls ∈ Ts) (hstat : Cond.static y ∈ Ts) (hd : kHd y n) (hR : kRm rmc rm maxL) (hn : As.length = n) (hsum : (st.map fun v => v.category).sum ≤ 8) (hst : st0 = As.reverse ++ st) (hdg : decode cc pc = .ok (.invokestatic index, 3)) (kk : J g Wf nL C (pc + 3) lv (.int r :: st)) : J g Wf nL C pc lv st0 := by
  intro H locs ls hP hS hl
  subst hst
  have hk := X.2.2.2.2.2.1
  refine vp_callSi (va_runSN (As := As) (rest := st) (nL := nL) ⟨X.1, X.2.1, X.2.2.1, X.2.2.2.1, X.2.2.2.2.1⟩ hM ⟨va_cnB n X.2.2.2.2.1 hG hw h0.1 h0.2 hl0 (X.2.2.2.2.1 _ hini) hd (by rw [X.2.2.2.2.2.2.1]; exact hR), X.2.2.2.2.1 _ hstat, trivial⟩ ⟨fun a U f mk q => ⟨q.1, q.2.blind⟩, fun U hU hW => ⟨rfl, hk.warm hW⟩⟩ rfl hn hl.2.1 rfl (lv_room hsum) hdg ⟨by rw [X.2.2.2.2.2.2.1]; exact X.2.2.2.2.2.2.2.1, by rw [X.2.2.2.2.2.2.1]; exact X.2.2.2.2.2.2.2.2⟩).run (fun r' hr' => ?_)
  subst hr'
  exact kk H locs ls hP hS hl
end KC
section KM
variable {p : Program} {l : Launch} {e : Env} {R : Room} {s : State} {m : MethodId} {args : Array Value} {below : List Frame} {meth : Method} {c : Code} {H : Heap} {locs : List Loc} {cells slots : Nat}
theorem W.zret2 {cc : ByteArray} {Qc : Array Value → State → Outcome → State → Prop} {free : Addr → Prop} {v r : Int32} {ty : FieldType} (hexec : p.tables.exec = Jvm.exec) (hb : c.code = cc) (hr : meth.sig.returnType = some ty) (hn : narrow ty (.int v) = .int r)
    (hq : ∀ t : State, t.heap = H → s.WarmedH t.vm → Qc args s (.returned (some (.int r))) t) (hf : ∀ q ∈ locs, free q.base)
    {pc : Nat} {ls : Array Slot} (hdg : decode cc pc = .ok (.ireturn, 1)) (hlocks : meth.locks = false) : W p l e R s m args below meth c H locs cells slots (MQ below Qc args s cells slots free) (F0 m pc ls [.int v]) := by
  intro T hT X
  obtain ⟨fs, hret, hrun, hended, hW, hframe⟩ := X.leave (v := some (.int r)) (hlocks := hlocks) (fun h => by rw [hr] at h; cases h)
  have hmeth' : T.vm.method? m = some meth := X.method'
  refine ⟨T.setFrames fs, ?_, .returned (some (.int r)), hrun, hended, hq _ hT hW, locs, ⟨⟨_, rfl⟩, hW, hframe⟩, hf⟩
  jvm_step X.here [X.here.top, hexec, hb, hdg, hmeth', hr, hn]
  (try refine ⟨rfl, ?_⟩); (try refine ⟨rfl, ?_⟩)
  first | (intro acts; rw [hret _ acts rfl rfl rfl]) | rw [hret _ _ rfl rfl rfl]
  exact Steps.refl _
end KM
section KS
variable {l : Launch} {y : MethodName} {ws ws' : List Cond} {rm : Room} {D : va_G} {cI cS : ClassId} {Wf : kS → va_W} {C C' : kS} {av : List Value} {r : Int32} {cc : ByteArray} {nL : Nat} {ty : FieldType} {A : Nat → Prop}
/-- what a body may use to answer r with the state C' -/
def kRI (g : kG) (Wf : kS → va_W) (nL : Nat) (cc : ByteArray) (ty : FieldType) (C' : kS) (r : Int32) : Prop := ∀ (pc : Nat) (lv : List (Option Value)) (v : Int32), decode cc pc = .ok (.ireturn, 1) → narrow ty (.int v) = .int r → J g Wf nL C' pc lv [.int v]
def kRV (g : kG) (Wf : kS → va_W) (nL : Nat) (cc : ByteArray) (C' : kS) : Prop := ∀ (pc : Nat) (lv : List (Option Value)), decode cc pc = .ok (.return_, 1) → J g Wf nL C' pc lv []
theorem mI.of (hy : plainName y.cls = true) (hw : ws = Cond.code y cc nL (some ty) :: ws') (hc0 : av.all (fun w => decide (w.category = 1)) = true) (hn : av.length ≤ nL) (body : ∀ g : kG, Kx g cI cS cc y.cls ws nL rm → kRI g Wf nL cc ty C r → J g Wf nL C 0 (av.map some ++ List.replicate (nL - av.length) none) []) : mI l y ws rm D cI cS Wf C av r := by
  refine Met.ofW (cc := cc) (maxL := nL) (ret := some ty) hy hw ?_
  intro p e s m args below meth c s₁ B hml hv
  obtain ⟨rfl, hP, hK⟩ := hv
  have hts := atoms_spec (ws := ws) B.pre
  rw [lg_entry_eq]
  exact body ((p, l, e, rm, s), (m, av.toArray, below, meth, c), (fun H L => H = s.heap ∧ L = []), D, (0, 0), MQ below (vp_Si (fun x => x = r)) av.toArray s 0 0 (fun _ => False)) ⟨B.exec, B.bytes, hml, findClass_of_methodNamed B.named, hts, hK, rfl, Nat.zero_le _, Nat.zero_le _⟩
    (fun pc lv v hdg hnar H locs ls hP hS hl => by
      have hS : H = s.heap ∧ locs = [] := hS
      show W p l e _ s m av.toArray below meth c H locs 0 0 (MQ below (vp_Si (fun x => x = r)) av.toArray s 0 0 (fun _ => False)) (F0 m pc ls [.int v])
      exact W.zret2 B.exec B.bytes B.returns hnar (fun t ht _ => ⟨r, rfl, rfl, by rw [ht]; exact hS.1⟩) (fun q hq => by rw [hS.2] at hq; cases hq) hdg B.notSynchronized) s.heap [] _ hP ⟨rfl, rfl⟩ (kO.entry (fun w h => of_decide_eq_true (List.all_eq_true.mp hc0 w h)) hn)
theorem mP.of (hy : plainName y.cls = true) (hw : ws = Cond.code y cc nL (some ty) :: ws') (hc0 : av.all (fun w => decide (w.category = 1)) = true) (hn : av.length ≤ nL) (body : ∀ g : kG, Kx g cI cS cc y.cls ws nL rm → kRI g kWe nL cc ty kC0 r → J g kWe nL kC0 0 (av.map some ++ List.replicate (nL - av.length) none) []) : mP l y ws rm D cI cS av r := by
  refine Met.ofW (cc := cc) (maxL := nL) (ret := some ty) hy hw ?_
  intro p e s m args below meth c s₁ B hml hv
  obtain ⟨rfl, hK⟩ := hv
  have hts := atoms_spec (ws := ws) B.pre
  rw [lg_entry_eq]
  exact body ((p, l, e, rm, s), (m, av.toArray, below, meth, c), (fun H L => H = s.heap ∧ L = []), D, (0, 0), MQ below (vp_Si (fun x => x = r)) av.toArray s 0 0 (fun _ => False)) ⟨B.exec, B.bytes, hml, findClass_of_methodNamed B.named, hts, hK, rfl, Nat.zero_le _, Nat.zero_le _⟩
    (fun pc lv v hdg hnar H locs ls hP hS hl => by
      have hS : H = s.heap ∧ locs = [] := hS
      show W p l e _ s m av.toArray below meth c H locs 0 0 (MQ below (vp_Si (fun x => x = r)) av.toArray s 0 0 (fun _ => False)) (F0 m pc ls [.int v])
      exact W.zret2 B.exec B.bytes B.returns hnar (fun t ht _ => ⟨r, rfl, rfl, by rw [ht]; exact hS.1⟩) (fun q hq => by rw [hS.2] at hq; cases hq) hdg B.notSynchronized) s.heap [] _ (fun k q h => by simp [kWe] at h) ⟨rfl, rfl⟩ (kO.entry (fun w h => of_decide_eq_true (List.all_eq_true.mp hc0 w h)) hn)
theorem mV.of (hy : plainName y.cls = true) (hw : ws = Cond.code y cc nL none :: ws') (hc0 : av.all (fun w => decide (w.category = 1)) = true) (hn : av.length ≤ nL) (hD : ∀ C : kS, va_D A (Wf C)) (body : ∀ g : kG, Kx g cI cS cc y.cls ws nL rm → Kw g Wf A → kRV g Wf nL cc C' → J g Wf nL C 0 (av.map some ++ List.replicate (nL - av.length) none) []) : mV l y ws rm D cI cS Wf A C av C' := by
  refine Met.ofW (cc := cc) (maxL := nL) (ret := none) hy hw ?_
  intro p e s m args below meth c s₁ B hml hv
  obtain ⟨rfl, hP, hK⟩ := hv
  have hts := atoms_spec (ws := ws) B.pre
  rw [lg_entry_eq]
  exact body ((p, l, e, rm, s), (m, av.toArray, below, meth, c), va_S A s.heap, D, (0, 0), MQ below (va_Qv (fun _ : Unit => True) (fun _ t => va_P D vwCl (Wf C') t.heap) A) av.toArray s 0 0 A) ⟨B.exec, B.bytes, hml, findClass_of_methodNamed B.named, hts, hK, rfl, Nat.zero_le _, Nat.zero_le _⟩ ⟨rfl, hD⟩
    (fun pc lv hdg H locs ls hP hS hl => by
      have hS : va_S A s.heap H locs := hS
      have hP : va_P D vwCl (Wf C') H := hP
      show W p l e _ s m av.toArray below meth c H locs 0 0 (MQ below (va_Qv (fun _ : Unit => True) (fun _ t => va_P D vwCl (Wf C') t.heap) A) av.toArray s 0 0 A) (F0 m pc ls [])
      exact W.vret B.exec B.bytes B.returns (fun t ht _ => ⟨⟨(), rfl, trivial, by show va_P D vwCl (Wf C') t.heap; rw [ht]; exact hP⟩, va_S.F hS ht⟩) hS.2.2 hdg B.notSynchronized) s.heap [] _ hP va_S.rf (kO.entry (fun w h => of_decide_eq_true (List.all_eq_true.mp hc0 w h)) hn)
theorem mW.of (hy : plainName y.cls = true) (hw : ws = Cond.code y cc nL (some ty) :: ws') (hc0 : av.all (fun w => decide (w.category = 1)) = true) (hn : av.length ≤ nL) (hD : ∀ C : kS, va_D A (Wf C)) (body : ∀ g : kG, Kx g cI cS cc y.cls ws nL rm → Kw g Wf A → kRI g Wf nL cc ty C' r → J g Wf nL C 0 (av.map some ++ List.replicate (nL - av.length) none) []) : mW l y ws rm D cI cS Wf A C av r C' := by
  refine Met.ofW (cc := cc) (maxL := nL) (ret := some ty) hy hw ?_
  intro p e s m args below meth c s₁ B hml hv
  obtain ⟨rfl, hP, hK⟩ := hv
  have hts := atoms_spec (ws := ws) B.pre
  rw [lg_entry_eq]
  exact body ((p, l, e, rm, s), (m, av.toArray, below, meth, c), va_S A s.heap, D, (0, 0), MQ below (va_Qi (fun x (_ : Unit) => x = r) (fun _ t => va_P D vwCl (Wf C') t.heap) A) av.toArray s 0 0 A) ⟨B.exec, B.bytes, hml, findClass_of_methodNamed B.named, hts, hK, rfl, Nat.zero_le _, Nat.zero_le _⟩ ⟨rfl, hD⟩
    (fun pc lv v hdg hnar H locs ls hP hS hl => by
      have hS : va_S A s.heap H locs := hS
      have hP : va_P D vwCl (Wf C') H := hP
      show W p l e _ s m av.toArray below meth c H locs 0 0 (MQ below (va_Qi (fun x (_ : Unit) => x = r) (fun _ t => va_P D vwCl (Wf C') t.heap) A) av.toArray s 0 0 A) (F0 m pc ls [.int v])
      exact W.zret2 B.exec B.bytes B.returns hnar (fun t ht _ => ⟨⟨r, (), rfl, rfl, by show va_P D vwCl (Wf C') t.heap; rw [ht]; exact hP⟩, va_S.F hS ht⟩) hS.2.2 hdg B.notSynchronized) s.heap [] _ hP va_S.rf (kO.entry (fun w h => of_decide_eq_true (List.all_eq_true.mp hc0 w h)) hn)
end KS
/-! the functions' side -/
def gIn {α : Type} (i : Int32) (n : Nat) (x : Option α) : Option α := if i < 0 ∨ n ≤ i.toNatClampNeg then none else x
theorem gIn_s {α : Type} {i : Int32} {n : Nat} {x : Option α} {r : α} (h : gIn i n x = some r) : vp_in i n ∧ x = some r := by
  unfold gIn at h
  by_cases c : i < 0 ∨ n ≤ i.toNatClampNeg
  · rw [if_pos c] at h; cases h
  · rw [if_neg c] at h; exact ⟨c, h⟩
theorem gIn_t {α : Type} {i : Int32} {n : Nat} {x : Option α} (h : vp_in i n) : gIn i n x = x := if_neg h
def gNz {α : Type} (y : Int32) (x : Option α) : Option α := if y = 0 then none else x
theorem gNz_s {α : Type} {y : Int32} {x : Option α} {r : α} (h : gNz y x = some r) : ¬ y = 0 ∧ x = some r := by
  unfold gNz at h
  by_cases c : y = 0
  · rw [if_pos c] at h; cases h
  · rw [if_neg c] at h; exact ⟨c, h⟩
theorem gNz_t {α : Type} {y : Int32} {x : Option α} (h : ¬ y = 0) : gNz y x = x := if_neg h
def gIf {α : Type} (b : Prop) [Decidable b] (x : Option α) : Option α := if b then x else none
theorem gIf_s {α : Type} {b : Prop} [Decidable b] {x : Option α} {r : α} (h : gIf b x = some r) : b ∧ x = some r := by
  unfold gIf at h
  by_cases c : b
  · rw [if_pos c] at h; exact ⟨c, h⟩
  · rw [if_neg c] at h; cases h
theorem gIf_t {α : Type} {b : Prop} [Decidable b] {x : Option α} (h : b) : gIf b x = x := if_pos h
theorem kT {α : Type} {c : Prop} [Decidable c] {a b r : α} (hc : c) (h : (if c then a else b) = r) : a = r := by rw [if_pos hc] at h; exact h
theorem kF {α : Type} {c : Prop} [Decidable c] {a b r : α} (hc : ¬ c) (h : (if c then a else b) = r) : b = r := by rw [if_neg hc] at h; exact h
theorem kB {α β : Type} {x : Option α} {f : α → Option β} {r : β} (h : x.bind f = some r) : ∃ y, x = some y ∧ f y = some r := by
  cases x with
  | none => cases h
  | some y => exact ⟨y, rfl, h⟩
/-- a point where roads meet: the rest of the work, then the roads to it -/
def jn {α β : Type} (k : α) (f : α → β) : β := f k
theorem jn_s {α β : Type} {k : α} {f : α → β} {r : β} (h : jn k f = r) : ∃ j, j = k ∧ f j = r := ⟨k, rfl, h⟩
theorem jE0 {γ : Type} {j k r : γ} (e : j = k) (h : j = r) : k = r := e.symm.trans h
theorem jE1 {α γ : Type} {j k : α → γ} {r : γ} {a : α} (e : j = k) (h : j a = r) : k a = r := e ▸ h
theorem jE2 {α β γ : Type} {j k : α → β → γ} {r : γ} {a : α} {b : β} (e : j = k) (h : j a b = r) : k a b = r := e ▸ h
theorem jE3 {α β δ γ : Type} {j k : α → β → δ → γ} {r : γ} {a : α} {b : β} {c : δ} (e : j = k) (h : j a b c = r) : k a b c = r := e ▸ h
theorem jE4 {α β δ ε γ : Type} {j k : α → β → δ → ε → γ} {r : γ} {a : α} {b : β} {c : δ} {d : ε} (e : j = k) (h : j a b c d = r) : k a b c d = r := e ▸ h
theorem jE5 {α β δ ε ζ γ : Type} {j k : α → β → δ → ε → ζ → γ} {r : γ} {a : α} {b : β} {c : δ} {d : ε} {f : ζ} (e : j = k) (h : j a b c d f = r) : k a b c d f = r := e ▸ h
theorem jE6 {α β δ ε ζ η γ : Type} {j k : α → β → δ → ε → ζ → η → γ} {r : γ} {a : α} {b : β} {c : δ} {d : ε} {f : ζ} {x : η} (e : j = k) (h : j a b c d f x = r) : k a b c d f x = r := e ▸ h
def kLe : List (Option Value) → List (Option Value) → Prop
  | [], [] => True
  | _ :: r, none :: r' => kLe r r'
  | a :: r, some v :: r' => a = some v ∧ kLe r r'
  | _, _ => False
theorem kLe.len : ∀ {a b : List (Option Value)}, kLe a b → a.length = b.length
  | [], [], _ => rfl
  | _ :: r, none :: r', h => by simp [kLe.len (a := r) (b := r') h]
  | _ :: r, some v :: r', h => by simp [kLe.len (a := r) (b := r') h.2]
theorem kLe.sub : ∀ {a b : List (Option Value)}, kLe a b → ∀ (i : Nat) (v : Value), b[i]? = some (some v) → a[i]? = some (some v)
  | [], [], _, i, v, hv => hv
  | x :: r, none :: r', h, 0, v, hv => by simp at hv
  | x :: r, none :: r', h, i + 1, v, hv => by simpa using kLe.sub (a := r) (b := r') h i v (by simpa using hv)
  | x :: r, some w :: r', h, 0, v, hv => by
    have h1 : w = v := by simpa using hv
    subst h1
    simp [h.1]
  | x :: r, some w :: r', h, i + 1, v, hv => by simpa using kLe.sub (a := r) (b := r') h.2 i v (by simpa using hv)
theorem j_weak {g : kG} {Wf : kS → va_W} {nL : Nat} {C : kS} {pc : Nat} {lv lv' : List (Option Value)} {st : List Value} (h : kLe lv lv') (k : J g Wf nL C pc lv' st) : J g Wf nL C pc lv st := fun H locs ls hP hS hl => k H locs ls hP hS ⟨by rw [← h.len]; exact hl.1, hl.2.1, hl.2.2.1, fun i v hv => hl.2.2.2 i v (h.sub i v hv)⟩
theorem j_retI {g : kG} {Wf : kS → va_W} {nL : Nat} {C : kS} {cc : ByteArray} {r v : Int32} {pc : Nat} {lv : List (Option Value)} (hR : kRI g Wf nL cc .int C r) (hdg : decode cc pc = .ok (.ireturn, 1)) (hf : some v = some r) : J g Wf nL C pc lv [.int v] := hR pc lv v hdg (by cases hf; rfl)
theorem j_retB {g : kG} {Wf : kS → va_W} {nL : Nat} {C : kS} {cc : ByteArray} {r v : Int32} {pc : Nat} {lv : List (Option Value)} (hR : kRI g Wf nL cc .boolean C r) (hdg : decode cc pc = .ok (.ireturn, 1)) (hf : some (v &&& 1) = some r) : J g Wf nL C pc lv [.int v] := hR pc lv v hdg (by cases hf; rfl)
theorem j_retW {g : kG} {Wf : kS → va_W} {nL : Nat} {C C' : kS} {cc : ByteArray} {r v : Int32} {pc : Nat} {lv : List (Option Value)} (hR : kRI g Wf nL cc .int C' r) (hdg : decode cc pc = .ok (.ireturn, 1)) (hf : some (v, C) = some (r, C')) : J g Wf nL C pc lv [.int v] := by
  cases hf
  exact hR pc lv _ hdg rfl
theorem j_retV {g : kG} {Wf : kS → va_W} {nL : Nat} {C C' : kS} {cc : ByteArray} {pc : Nat} {lv : List (Option Value)} (hR : kRV g Wf nL cc C') (hdg : decode cc pc = .ok (.return_, 1)) (hf : some C = some C') : J g Wf nL C pc lv [] := by
  cases hf
  exact hR pc lv hdg
