abbrev rm_X9_in : Room := { frames := 0, cells := 0, slots := 0, locals := 0 }
def f_X9_in (N : Nat) (a0 : Int32) (a1 : Int32) (a2 : Int32) : Option (Int32) := jn (fun (t1 : Int32) => some (t1 &&& 1)) (fun j15_1 => if a0 < a1 then j15_1 0 else if a2 < a0 then j15_1 0 else j15_1 1)
theorem hd_X9_in : kHd yX9_in 3 := by decide +kernel
set_option maxHeartbeats 4000000 in
set_option maxRecDepth 100000 in
theorem t_X9_in {g : kG} {cI cS : ClassId} (X : Kx g cI cS cX9_in RX9 wsX9_in 3 rm_X9_in) {r : Int32} (hR : kRI g kWe 3 cX9_in .boolean kC0 r) (N : Nat) (a0 : Int32) (a1 : Int32) (a2 : Int32)  (hf : f_X9_in N a0 a1 a2 = some r) : J g kWe 3 kC0 0 [some (.int a0), some (.int a1), some (.int a2)] [] := by
  unfold f_X9_in at hf
  refine j_iload_n (pc := 0) X dX9_in_0 rfl ?_
  refine j_iload_n (pc := 1) X dX9_in_1 rfl ?_
  obtain ⟨j15_1, ej15_1, hf⟩ := jn_s hf
  have hj15_1 : ∀ (t1 : Int32), j15_1 t1 = some r → J g kWe 3 kC0 15 [some (.int a0), some (.int a1), some (.int a2)] [.int t1] := by
    intro t1 hf
    have hf := jE1 ej15_1 hf
    exact j_retB hR dX9_in_15 hf
  refine j_icmp_lt (tgt := 14) (pc := 2) X dX9_in_2 rfl (fun c3 => ?_) (fun c3 => ?_)
  · have hf := kT c3 hf
    refine j_iconst (pc := 14) X dX9_in_14 kc_0 ?_
    exact hj15_1 _ hf
  · have hf := kF c3 hf
    refine j_iload_n (pc := 5) X dX9_in_5 rfl ?_
    refine j_iload_n (pc := 6) X dX9_in_6 rfl ?_
    refine j_icmp_gt (tgt := 14) (pc := 7) X dX9_in_7 rfl (fun c4 => ?_) (fun c4 => ?_)
    · have hf := kT c4 hf
      refine j_iconst (pc := 14) X dX9_in_14 kc_0 ?_
      exact hj15_1 _ hf
    · have hf := kF c4 hf
      refine j_iconst (pc := 10) X dX9_in_10 kc_1 ?_
      refine j_goto (tgt := 15) (pc := 11) X dX9_in_11 rfl ?_
      exact hj15_1 _ hf
theorem c_X9_in {l : Launch} {D : va_G} {cI cS : ClassId}  (N : Nat) (a0 : Int32) (a1 : Int32) (a2 : Int32) {r : Int32} (hf : f_X9_in N a0 a1 a2 = some r) : mP l yX9_in wsX9_in rm_X9_in D cI cS [.int a0, .int a1, .int a2] r :=
  mP.of (by decide) rfl rfl (Nat.le_of_ble_eq_true rfl) (fun g X hR => t_X9_in X  hR N a0 a1 a2  hf)
abbrev rm_X9_isLetter : Room := { frames := 1, cells := 0, slots := 0, locals := 22 }
def f_X9_isLetter (N : Nat) (a0 : Int32) : Option (Int32) := (f_X9_in N a0 97 122).bind (fun r2 => some (r2 &&& 1))
theorem hd_X9_isLetter : kHd yX9_isLetter 1 := by decide +kernel
set_option maxHeartbeats 4000000 in
set_option maxRecDepth 100000 in
theorem t_X9_isLetter {g : kG} {cI cS : ClassId} (X : Kx g cI cS cX9_isLetter RX9 wsX9_isLetter 1 rm_X9_isLetter) {r : Int32} (hR : kRI g kWe 1 cX9_isLetter .boolean kC0 r) (N : Nat) (a0 : Int32)  (hf : f_X9_isLetter N a0 = some r) : J g kWe 1 kC0 0 [some (.int a0)] [] := by
  unfold f_X9_isLetter at hf
  refine j_iload_n (pc := 0) X dX9_isLetter_0 rfl ?_
  refine j_bipush (pc := 1) X dX9_isLetter_1 kb_97 ?_
  refine j_bipush (pc := 3) X dX9_isLetter_3 kb_122 ?_
  obtain ⟨r2, h1, hf⟩ := kB hf
  refine j_callP (pc := 5) X (c_X9_in N a0 97 122 h1) gX9_isLetter_X9_in rfl ⟨rfl, rfl⟩ hd_X9_in ⟨(Nat.le_of_ble_eq_true rfl), (Nat.le_of_ble_eq_true rfl)⟩ rfl (Nat.le_of_ble_eq_true rfl) rfl dX9_isLetter_5 ?_
  exact j_retB hR dX9_isLetter_8 hf
theorem c_X9_isLetter {l : Launch} {D : va_G} {cI cS : ClassId}  (N : Nat) (a0 : Int32) {r : Int32} (hf : f_X9_isLetter N a0 = some r) : mP l yX9_isLetter wsX9_isLetter rm_X9_isLetter D cI cS [.int a0] r :=
  mP.of (by decide) rfl rfl (Nat.le_of_ble_eq_true rfl) (fun g X hR => t_X9_isLetter X  hR N a0  hf)
abbrev rm_X9_areLetters : Room := { frames := 2, cells := 0, slots := 0, locals := 42 }
theorem lk_X9_areLetters_0 : Cond.fieldLink RX9 48 "BlackBarsModel" "typed" "I" ∈ wsX9_areLetters := List.mem_of_getElem? (i := 1) rfl
theorem iw_X9_areLetters_X9 : ∀ w ∈ wsX90, w ∈ wsX9_areLetters := fun _ h => List.mem_cons_of_mem _ (List.mem_append_right _ h)
theorem lk_X9_areLetters_1 : Cond.fieldLink RX9 16 "BlackBarsModel" "text" "[I" ∈ wsX9_areLetters := List.mem_of_getElem? (i := 2) rfl
def lp_X9_areLetters_12 (N : Nat) (C : kS) (k48_3 : Int32 → Option (Int32)) : Nat → Int32 → Int32 → Option (Int32)
  | 0, _, _ => none
  | n + 1, x5, x6 => if (C 0 4) ≤ x6 then k48_3 x5 else jn (fun (t8 : Int32) => lp_X9_areLetters_12 N C k48_3 n t8 (x6 + 1)) (fun j41_8 => jn (j41_8 0) (fun j40_9 => if x5 = 0 then j40_9 else gIn x6 200 ((f_X9_isLetter N (C 3 x6.toNatClampNeg)).bind (fun r14 => if r14 = 0 then j40_9 else j41_8 1))))
def f_X9_areLetters (N : Nat) (C : kS) (a1 : Int32) : Option (Int32) := (f_X9_in N (C 0 4) 1 a1).bind (fun r2 => jn (fun (x3 : Int32) => some (x3 &&& 1)) (fun k48_3 => lp_X9_areLetters_12 N C k48_3 N r2 0))
theorem hd_X9_areLetters : kHd yX9_areLetters 1 := by decide +kernel
set_option maxHeartbeats 4000000 in
set_option maxRecDepth 100000 in
theorem lt_X9_areLetters_12 {g : kG} {cI cS : ClassId} {am : Nat → Nat} {C : kS} (X : Kx g cI cS cX9_areLetters RX9 wsX9_areLetters 4 rm_X9_areLetters) {r : Int32} (hR : kRI g (WM cI am) 4 cX9_areLetters .boolean C r) (N : Nat) (a1 : Int32)  (k48_3 : Int32 → Option (Int32)) (hk48_3 : ∀ (x3 : Int32), k48_3 x3 = some r → J g (WM cI am) 4 C 48 [some (.ref (am 0)), some (.int a1), some (.int x3), none] []) : ∀ (n : Nat) (x5 : Int32) (x6 : Int32), lp_X9_areLetters_12 N C k48_3 n x5 x6 = some r → J g (WM cI am) 4 C 12 [some (.ref (am 0)), some (.int a1), some (.int x5), some (.int x6)] [] := by
  intro n
  induction n with
  | zero =>
    intro x5 x6 hf
    rw [lp_X9_areLetters_12] at hf
    cases hf
  | succ n ih =>
    intro x5 x6 hf
    rw [lp_X9_areLetters_12] at hf
    refine j_iload_n (pc := 12) X dX9_areLetters_12 rfl ?_
    refine j_aload_n (pc := 13) X dX9_areLetters_13 rfl ?_
    refine j_get (pc := 14) X iw_X9_areLetters_X9 wm0 rfl 4 (Nat.le_of_ble_eq_true rfl) lk_X9_areLetters_0 (v := .int (C 0 4)) rfl dX9_areLetters_14 ?_
    refine j_icmp_ge (tgt := 48) (pc := 17) X dX9_areLetters_17 rfl (fun c7 => ?_) (fun c7 => ?_)
    · have hf := kT c7 hf
      refine j_weak (lv' := [some (.ref (am 0)), some (.int a1), some (.int x5), none]) (And.intro rfl (And.intro rfl (And.intro rfl trivial))) ?_
      exact hk48_3 _ hf
    · have hf := kF c7 hf
      refine j_iload_n (pc := 20) X dX9_areLetters_20 rfl ?_
      obtain ⟨j41_8, ej41_8, hf⟩ := jn_s hf
      have hj41_8 : ∀ (t8 : Int32), j41_8 t8 = some r → J g (WM cI am) 4 C 41 [some (.ref (am 0)), some (.int a1), some (.int x5), some (.int x6)] [.int t8] := by
        intro t8 hf
        have hf := jE1 ej41_8 hf
        refine j_istore_n (pc := 41) X dX9_areLetters_41 (Nat.le_of_ble_eq_true rfl) (lv' := [some (.ref (am 0)), some (.int a1), some (.int t8), some (.int x6)]) rfl ?_
        refine j_iinc (pc := 42) X dX9_areLetters_42 rfl (v := x6 + 1) (by rw [kc_1]) (Nat.le_of_ble_eq_true rfl) (lv' := [some (.ref (am 0)), some (.int a1), some (.int t8), some (.int (x6 + 1))]) rfl ?_
        refine j_goto (tgt := 12) (pc := 45) X dX9_areLetters_45 rfl ?_
        exact ih _ _ hf
      obtain ⟨j40_9, ej40_9, hf⟩ := jn_s hf
      have hj40_9 : ∀ (_ : Unit), j40_9 = some r → J g (WM cI am) 4 C 40 [some (.ref (am 0)), some (.int a1), some (.int x5), some (.int x6)] [] := by
        intro _ hf
        have hf := jE0 ej40_9 hf
        refine j_iconst (pc := 40) X dX9_areLetters_40 kc_0 ?_
        exact hj41_8 _ hf
      refine j_if_eq (tgt := 40) (pc := 21) X dX9_areLetters_21 rfl (fun c11 => ?_) (fun c11 => ?_)
      · have hf := kT c11 hf
        exact hj40_9 () hf
      · have hf := kF c11 hf
        refine j_aload_n (pc := 24) X dX9_areLetters_24 rfl ?_
        refine j_get (pc := 25) X iw_X9_areLetters_X9 wm0 rfl 3 (Nat.le_of_ble_eq_true rfl) lk_X9_areLetters_1 (v := .ref (am 3)) rfl dX9_areLetters_25 ?_
        refine j_iload_n (pc := 28) X dX9_areLetters_28 rfl ?_
        obtain ⟨b12, hf⟩ := gIn_s hf
        refine j_iald (pc := 29) X wm3 b12 dX9_areLetters_29 ?_
        obtain ⟨r14, h13, hf⟩ := kB hf
        refine j_callP (pc := 30) X (c_X9_isLetter N (C 3 x6.toNatClampNeg) h13) gX9_areLetters_X9_isLetter rfl ⟨rfl, rfl⟩ hd_X9_isLetter ⟨(Nat.le_of_ble_eq_true rfl), (Nat.le_of_ble_eq_true rfl)⟩ rfl (Nat.le_of_ble_eq_true rfl) rfl dX9_areLetters_30 ?_
        refine j_if_eq (tgt := 40) (pc := 33) X dX9_areLetters_33 rfl (fun c15 => ?_) (fun c15 => ?_)
        · have hf := kT c15 hf
          exact hj40_9 () hf
        · have hf := kF c15 hf
          refine j_iconst (pc := 36) X dX9_areLetters_36 kc_1 ?_
          refine j_goto (tgt := 41) (pc := 37) X dX9_areLetters_37 rfl ?_
          exact hj41_8 _ hf
set_option maxHeartbeats 4000000 in
set_option maxRecDepth 100000 in
theorem t_X9_areLetters {g : kG} {cI cS : ClassId} {am : Nat → Nat} {C : kS} (X : Kx g cI cS cX9_areLetters RX9 wsX9_areLetters 4 rm_X9_areLetters) {r : Int32} (hR : kRI g (WM cI am) 4 cX9_areLetters .boolean C r) (N : Nat) (a1 : Int32)  (hf : f_X9_areLetters N C a1 = some r) : J g (WM cI am) 4 C 0 [some (.ref (am 0)), some (.int a1), none, none] [] := by
  unfold f_X9_areLetters at hf
  refine j_aload_n (pc := 0) X dX9_areLetters_0 rfl ?_
  refine j_get (pc := 1) X iw_X9_areLetters_X9 wm0 rfl 4 (Nat.le_of_ble_eq_true rfl) lk_X9_areLetters_0 (v := .int (C 0 4)) rfl dX9_areLetters_1 ?_
  refine j_iconst (pc := 4) X dX9_areLetters_4 kc_1 ?_
  refine j_iload_n (pc := 5) X dX9_areLetters_5 rfl ?_
  obtain ⟨r2, h1, hf⟩ := kB hf
  refine j_callP (pc := 6) X (c_X9_in N (C 0 4) 1 a1 h1) gX9_areLetters_X9_in rfl ⟨rfl, rfl⟩ hd_X9_in ⟨(Nat.le_of_ble_eq_true rfl), (Nat.le_of_ble_eq_true rfl)⟩ rfl (Nat.le_of_ble_eq_true rfl) rfl dX9_areLetters_6 ?_
  refine j_istore_n (pc := 9) X dX9_areLetters_9 (Nat.le_of_ble_eq_true rfl) (lv' := [some (.ref (am 0)), some (.int a1), some (.int r2), none]) rfl ?_
  refine j_iconst (pc := 10) X dX9_areLetters_10 kc_0 ?_
  refine j_istore_n (pc := 11) X dX9_areLetters_11 (Nat.le_of_ble_eq_true rfl) (lv' := [some (.ref (am 0)), some (.int a1), some (.int r2), some (.int 0)]) rfl ?_
  obtain ⟨k48_3, ek48_3, hf⟩ := jn_s hf
  have hk48_3 : ∀ (x3 : Int32), k48_3 x3 = some r → J g (WM cI am) 4 C 48 [some (.ref (am 0)), some (.int a1), some (.int x3), none] [] := by
    intro x3 hf
    have hf := jE1 ek48_3 hf
    refine j_iload_n (pc := 48) X dX9_areLetters_48 rfl ?_
    exact j_retB hR dX9_areLetters_49 hf
  exact lt_X9_areLetters_12 X hR N a1   k48_3 hk48_3 N _ _ hf
theorem c_X9_areLetters {l : Launch} {D : va_G} {cI cS : ClassId} {am : Nat → Nat} (N : Nat) (C : kS) (a1 : Int32) {r : Int32} (hf : f_X9_areLetters N C a1 = some r) : mI l yX9_areLetters wsX9_areLetters rm_X9_areLetters D cI cS (WM cI am) C [.ref (am 0), .int a1] r :=
  mI.of (by decide) rfl rfl (Nat.le_of_ble_eq_true rfl) (fun g X hR => t_X9_areLetters X  hR N a1  hf)
abbrev rm_X9_each : Room := { frames := 0, cells := 0, slots := 0, locals := 0 }
theorem lk_X9_each_0 : Cond.fieldLink RX9 7 "BlackBarsModel" "s" "[I" ∈ wsX9_each := List.mem_of_getElem? (i := 1) rfl
theorem iw_X9_each_X9 : ∀ w ∈ wsX90, w ∈ wsX9_each := fun _ h => List.mem_cons_of_mem _ (List.mem_append_right _ h)
def f_X9_each (N : Nat) (C : kS) : Option (Int32) := gIn 2 642 (some ((C 1 (2 : Int32).toNatClampNeg) + 1))
theorem hd_X9_each : kHd yX9_each 0 := by decide +kernel
set_option maxHeartbeats 4000000 in
set_option maxRecDepth 100000 in
theorem t_X9_each {g : kG} {cI cS : ClassId} {am : Nat → Nat} {C : kS} (X : Kx g cI cS cX9_each RX9 wsX9_each 1 rm_X9_each) {r : Int32} (hR : kRI g (WM cI am) 1 cX9_each .int C r) (N : Nat)   (hf : f_X9_each N C = some r) : J g (WM cI am) 1 C 0 [some (.ref (am 0))] [] := by
  unfold f_X9_each at hf
  refine j_aload_n (pc := 0) X dX9_each_0 rfl ?_
  refine j_get (pc := 1) X iw_X9_each_X9 wm0 rfl 0 (Nat.le_of_ble_eq_true rfl) lk_X9_each_0 (v := .ref (am 1)) rfl dX9_each_1 ?_
  refine j_iconst (pc := 4) X dX9_each_4 kc_2 ?_
  obtain ⟨b1, hf⟩ := gIn_s hf
  refine j_iald (pc := 5) X wm1 b1 dX9_each_5 ?_
  refine j_iconst (pc := 6) X dX9_each_6 kc_1 ?_
  refine j_iadd (pc := 7) X dX9_each_7 ?_
  exact j_retI hR dX9_each_8 hf
theorem c_X9_each {l : Launch} {D : va_G} {cI cS : ClassId} {am : Nat → Nat} (N : Nat) (C : kS)  {r : Int32} (hf : f_X9_each N C = some r) : mI l yX9_each wsX9_each rm_X9_each D cI cS (WM cI am) C [.ref (am 0)] r :=
  mI.of (by decide) rfl rfl (Nat.le_of_ble_eq_true rfl) (fun g X hR => t_X9_each X  hR N   hf)
abbrev rm_X9_widthAt : Room := { frames := 0, cells := 0, slots := 0, locals := 0 }
theorem lk_X9_widthAt_0 : Cond.fieldLink RX9 7 "BlackBarsModel" "s" "[I" ∈ wsX9_widthAt := List.mem_of_getElem? (i := 1) rfl
theorem iw_X9_widthAt_X9 : ∀ w ∈ wsX90, w ∈ wsX9_widthAt := fun _ h => List.mem_cons_of_mem _ (List.mem_append_right _ h)
def lp_X9_widthAt_4 (N : Nat) (C : kS) (a1 : Int32) (k39_1 : Int32 → Option (Int32)) : Nat → Int32 → Int32 → Option (Int32)
  | 0, _, _ => none
  | n + 1, x3, x4 => gIn a1 642 (if (C 1 a1.toNatClampNeg) < x4 then k39_1 x3 else gIn (a1 + x4) 642 (gIn (8 + (C 1 (a1 + x4).toNatClampNeg)) 642 (jn (x3 + (C 1 (8 + (C 1 (a1 + x4).toNatClampNeg)).toNatClampNeg)) (fun x9 : Int32 => lp_X9_widthAt_4 N C a1 k39_1 n x9 (x4 + 1)))))
def f_X9_widthAt (N : Nat) (C : kS) (a1 : Int32) : Option (Int32) := jn (fun (x1 : Int32) => some x1) (fun k39_1 => lp_X9_widthAt_4 N C a1 k39_1 N 0 1)
theorem hd_X9_widthAt : kHd yX9_widthAt 1 := by decide +kernel
set_option maxHeartbeats 4000000 in
set_option maxRecDepth 100000 in
theorem lt_X9_widthAt_4 {g : kG} {cI cS : ClassId} {am : Nat → Nat} {C : kS} (X : Kx g cI cS cX9_widthAt RX9 wsX9_widthAt 4 rm_X9_widthAt) {r : Int32} (hR : kRI g (WM cI am) 4 cX9_widthAt .int C r) (N : Nat) (a1 : Int32)  (k39_1 : Int32 → Option (Int32)) (hk39_1 : ∀ (x1 : Int32), k39_1 x1 = some r → J g (WM cI am) 4 C 39 [some (.ref (am 0)), some (.int a1), some (.int x1), none] []) : ∀ (n : Nat) (x3 : Int32) (x4 : Int32), lp_X9_widthAt_4 N C a1 k39_1 n x3 x4 = some r → J g (WM cI am) 4 C 4 [some (.ref (am 0)), some (.int a1), some (.int x3), some (.int x4)] [] := by
  intro n
  induction n with
  | zero =>
    intro x3 x4 hf
    rw [lp_X9_widthAt_4] at hf
    cases hf
  | succ n ih =>
    intro x3 x4 hf
    rw [lp_X9_widthAt_4] at hf
    refine j_iload_n (pc := 4) X dX9_widthAt_4 rfl ?_
    refine j_aload_n (pc := 5) X dX9_widthAt_5 rfl ?_
    refine j_get (pc := 6) X iw_X9_widthAt_X9 wm0 rfl 0 (Nat.le_of_ble_eq_true rfl) lk_X9_widthAt_0 (v := .ref (am 1)) rfl dX9_widthAt_6 ?_
    refine j_iload_n (pc := 9) X dX9_widthAt_9 rfl ?_
    obtain ⟨b5, hf⟩ := gIn_s hf
    refine j_iald (pc := 10) X wm1 b5 dX9_widthAt_10 ?_
    refine j_icmp_gt (tgt := 39) (pc := 11) X dX9_widthAt_11 rfl (fun c6 => ?_) (fun c6 => ?_)
    · have hf := kT c6 hf
      refine j_weak (lv' := [some (.ref (am 0)), some (.int a1), some (.int x3), none]) (And.intro rfl (And.intro rfl (And.intro rfl trivial))) ?_
      exact hk39_1 _ hf
    · have hf := kF c6 hf
      refine j_iload_n (pc := 14) X dX9_widthAt_14 rfl ?_
      refine j_aload_n (pc := 15) X dX9_widthAt_15 rfl ?_
      refine j_get (pc := 16) X iw_X9_widthAt_X9 wm0 rfl 0 (Nat.le_of_ble_eq_true rfl) lk_X9_widthAt_0 (v := .ref (am 1)) rfl dX9_widthAt_16 ?_
      refine j_bipush (pc := 19) X dX9_widthAt_19 kb_8 ?_
      refine j_aload_n (pc := 21) X dX9_widthAt_21 rfl ?_
      refine j_get (pc := 22) X iw_X9_widthAt_X9 wm0 rfl 0 (Nat.le_of_ble_eq_true rfl) lk_X9_widthAt_0 (v := .ref (am 1)) rfl dX9_widthAt_22 ?_
      refine j_iload_n (pc := 25) X dX9_widthAt_25 rfl ?_
      refine j_iload_n (pc := 26) X dX9_widthAt_26 rfl ?_
      refine j_iadd (pc := 27) X dX9_widthAt_27 ?_
      obtain ⟨b7, hf⟩ := gIn_s hf
      refine j_iald (pc := 28) X wm1 b7 dX9_widthAt_28 ?_
      refine j_iadd (pc := 29) X dX9_widthAt_29 ?_
      obtain ⟨b8, hf⟩ := gIn_s hf
      refine j_iald (pc := 30) X wm1 b8 dX9_widthAt_30 ?_
      refine j_iadd (pc := 31) X dX9_widthAt_31 ?_
      obtain ⟨x9, ex9, hf⟩ := jn_s hf
      refine j_istore_n (pc := 32) X dX9_widthAt_32 (Nat.le_of_ble_eq_true rfl) (lv' := [some (.ref (am 0)), some (.int a1), some (.int x9), some (.int x4)]) (by rw [ex9]; rfl) ?_
      refine j_iinc (pc := 33) X dX9_widthAt_33 rfl (v := x4 + 1) (by rw [kc_1]) (Nat.le_of_ble_eq_true rfl) (lv' := [some (.ref (am 0)), some (.int a1), some (.int x9), some (.int (x4 + 1))]) rfl ?_
      refine j_goto (tgt := 4) (pc := 36) X dX9_widthAt_36 rfl ?_
      exact ih _ _ hf
set_option maxHeartbeats 4000000 in
set_option maxRecDepth 100000 in
theorem t_X9_widthAt {g : kG} {cI cS : ClassId} {am : Nat → Nat} {C : kS} (X : Kx g cI cS cX9_widthAt RX9 wsX9_widthAt 4 rm_X9_widthAt) {r : Int32} (hR : kRI g (WM cI am) 4 cX9_widthAt .int C r) (N : Nat) (a1 : Int32)  (hf : f_X9_widthAt N C a1 = some r) : J g (WM cI am) 4 C 0 [some (.ref (am 0)), some (.int a1), none, none] [] := by
  unfold f_X9_widthAt at hf
  refine j_iconst (pc := 0) X dX9_widthAt_0 kc_0 ?_
  refine j_istore_n (pc := 1) X dX9_widthAt_1 (Nat.le_of_ble_eq_true rfl) (lv' := [some (.ref (am 0)), some (.int a1), some (.int 0), none]) rfl ?_
  refine j_iconst (pc := 2) X dX9_widthAt_2 kc_1 ?_
  refine j_istore_n (pc := 3) X dX9_widthAt_3 (Nat.le_of_ble_eq_true rfl) (lv' := [some (.ref (am 0)), some (.int a1), some (.int 0), some (.int 1)]) rfl ?_
  obtain ⟨k39_1, ek39_1, hf⟩ := jn_s hf
  have hk39_1 : ∀ (x1 : Int32), k39_1 x1 = some r → J g (WM cI am) 4 C 39 [some (.ref (am 0)), some (.int a1), some (.int x1), none] [] := by
    intro x1 hf
    have hf := jE1 ek39_1 hf
    refine j_iload_n (pc := 39) X dX9_widthAt_39 rfl ?_
    exact j_retI hR dX9_widthAt_40 hf
  exact lt_X9_widthAt_4 X hR N a1   k39_1 hk39_1 N _ _ hf
theorem c_X9_widthAt {l : Launch} {D : va_G} {cI cS : ClassId} {am : Nat → Nat} (N : Nat) (C : kS) (a1 : Int32) {r : Int32} (hf : f_X9_widthAt N C a1 = some r) : mI l yX9_widthAt wsX9_widthAt rm_X9_widthAt D cI cS (WM cI am) C [.ref (am 0), .int a1] r :=
  mI.of (by decide) rfl rfl (Nat.le_of_ble_eq_true rfl) (fun g X hR => t_X9_widthAt X  hR N a1  hf)
abbrev rm_X9_endingAt : Room := { frames := 1, cells := 0, slots := 0, locals := 20 }
def f_X9_endingAt (N : Nat) (C : kS) (a1 : Int32) : Option (Int32) := (f_X9_each N C).bind (fun r2 => gNz r2 (some (626 + (4 * ((a1 - a1 / r2 * r2) - 1)))))
theorem hd_X9_endingAt : kHd yX9_endingAt 1 := by decide +kernel
set_option maxHeartbeats 4000000 in
set_option maxRecDepth 100000 in
theorem t_X9_endingAt {g : kG} {cI cS : ClassId} {am : Nat → Nat} {C : kS} (X : Kx g cI cS cX9_endingAt RX9 wsX9_endingAt 2 rm_X9_endingAt) {r : Int32} (hR : kRI g (WM cI am) 2 cX9_endingAt .int C r) (N : Nat) (a1 : Int32)  (hf : f_X9_endingAt N C a1 = some r) : J g (WM cI am) 2 C 0 [some (.ref (am 0)), some (.int a1)] [] := by
  unfold f_X9_endingAt at hf
  refine j_sipush (pc := 0) X dX9_endingAt_0 ks_626 ?_
  refine j_iconst (pc := 3) X dX9_endingAt_3 kc_4 ?_
  refine j_iload_n (pc := 4) X dX9_endingAt_4 rfl ?_
  refine j_aload_n (pc := 5) X dX9_endingAt_5 rfl ?_
  obtain ⟨r2, h1, hf⟩ := kB hf
  refine j_callI (pc := 6) X (c_X9_each N C  h1) gX9_endingAt_X9_each rfl ⟨rfl, rfl⟩ rfl hd_X9_each ⟨(Nat.le_of_ble_eq_true rfl), (Nat.le_of_ble_eq_true rfl)⟩ wm0 rfl rfl rfl (Nat.le_of_ble_eq_true rfl) rfl dX9_endingAt_6 ?_
  obtain ⟨z3, hf⟩ := gNz_s hf
  refine j_irem (pc := 9) X dX9_endingAt_9 z3 ?_
  refine j_iconst (pc := 10) X dX9_endingAt_10 kc_1 ?_
  refine j_isub (pc := 11) X dX9_endingAt_11 ?_
  refine j_imul (pc := 12) X dX9_endingAt_12 ?_
  refine j_iadd (pc := 13) X dX9_endingAt_13 ?_
  exact j_retI hR dX9_endingAt_14 hf
theorem c_X9_endingAt {l : Launch} {D : va_G} {cI cS : ClassId} {am : Nat → Nat} (N : Nat) (C : kS) (a1 : Int32) {r : Int32} (hf : f_X9_endingAt N C a1 = some r) : mI l yX9_endingAt wsX9_endingAt rm_X9_endingAt D cI cS (WM cI am) C [.ref (am 0), .int a1] r :=
  mI.of (by decide) rfl rfl (Nat.le_of_ble_eq_true rfl) (fun g X hR => t_X9_endingAt X  hR N a1  hf)
abbrev rm_X9_sorts : Room := { frames := 0, cells := 0, slots := 0, locals := 0 }
theorem lk_X9_sorts_0 : Cond.fieldLink RX9 93 "BlackBarsModel" "forms" "I" ∈ wsX9_sorts := List.mem_of_getElem? (i := 1) rfl
theorem iw_X9_sorts_X9 : ∀ w ∈ wsX90, w ∈ wsX9_sorts := fun _ h => List.mem_cons_of_mem _ (List.mem_append_right _ h)
theorem lk_X9_sorts_2 : Cond.fieldLink RX9 25 "BlackBarsModel" "sorted" "[I" ∈ wsX9_sorts := List.mem_of_getElem? (i := 3) rfl
theorem lk_X9_sorts_1 : Cond.fieldLink RX9 19 "BlackBarsModel" "formWidth" "[I" ∈ wsX9_sorts := List.mem_of_getElem? (i := 2) rfl
def lp_X9_sorts_12 (N : Nat) (x3 : Int32) (k58_7 : Int32 → kS → Option (kS)) : Nat → Int32 → kS → Option (kS)
  | 0, _, _ => none
  | n + 1, x11, C12 => if x11 ≤ 0 then k58_7 x11 C12 else gIn (x11 - 1) 40 (gIn (C12 6 (x11 - 1).toNatClampNeg) 40 (gIn x3 40 (if (C12 4 (C12 6 (x11 - 1).toNatClampNeg).toNatClampNeg) ≤ (C12 4 x3.toNatClampNeg) then k58_7 x11 C12 else gIn (x11 - 1) 40 (gIn x11 40 (jn (up1 C12 6 (upd (C12 6) (x11.toNatClampNeg) (C12 6 (x11 - 1).toNatClampNeg))) (fun C20 : kS => lp_X9_sorts_12 N x3 k58_7 n (x11 + (-1)) C20))))))
def lp_X9_sorts_2 (N : Nat) (k71_1 : kS → Option (kS)) : Nat → Int32 → kS → Option (kS)
  | 0, _, _ => none
  | n + 1, x3, C4 => if (C4 0 9) ≤ x3 then k71_1 C4 else jn (fun (x6 : Int32) (C7 : kS) => gIn x6 40 (jn (up1 C7 6 (upd (C7 6) (x6.toNatClampNeg) x3)) (fun C10 : kS => lp_X9_sorts_2 N k71_1 n (x3 + 1) C10))) (fun k58_7 => lp_X9_sorts_12 N x3 k58_7 N x3 C4)
def f_X9_sorts (N : Nat) (C : kS) : Option (kS) := jn (fun (C1 : kS) => some C1) (fun k71_1 => lp_X9_sorts_2 N k71_1 N 0 C)
theorem hd_X9_sorts : kHd yX9_sorts 0 := by decide +kernel
set_option maxHeartbeats 4000000 in
set_option maxRecDepth 100000 in
theorem lt_X9_sorts_12 {g : kG} {cI cS : ClassId} {am : Nat → Nat} (X : Kx g cI cS cX9_sorts RX9 wsX9_sorts 3 rm_X9_sorts) {Cr : kS} (hI : kInj 11 am) (Y : Kw g (WM cI am) (kAd 11 am)) (hR : kRV g (WM cI am) 3 cX9_sorts Cr) (N : Nat) (x3 : Int32)  (k58_7 : Int32 → kS → Option (kS)) (hk58_7 : ∀ (x6 : Int32) (C7 : kS), k58_7 x6 C7 = some Cr → J g (WM cI am) 3 C7 58 [some (.ref (am 0)), some (.int x3), some (.int x6)] []) : ∀ (n : Nat) (x11 : Int32) (C12 : kS), lp_X9_sorts_12 N x3 k58_7 n x11 C12 = some Cr → J g (WM cI am) 3 C12 12 [some (.ref (am 0)), some (.int x3), some (.int x11)] [] := by
  intro n
  induction n with
  | zero =>
    intro x11 C12 hf
    rw [lp_X9_sorts_12] at hf
    cases hf
  | succ n ih =>
    intro x11 C12 hf
    rw [lp_X9_sorts_12] at hf
    refine j_iload_n (pc := 12) X dX9_sorts_12 rfl ?_
    refine j_if_le (tgt := 58) (pc := 13) X dX9_sorts_13 rfl (fun c13 => ?_) (fun c13 => ?_)
    · have hf := kT c13 hf
      exact hk58_7 _ _ hf
    · have hf := kF c13 hf
      refine j_aload_n (pc := 16) X dX9_sorts_16 rfl ?_
      refine j_get (pc := 17) X iw_X9_sorts_X9 wm0 rfl 6 (Nat.le_of_ble_eq_true rfl) lk_X9_sorts_1 (v := .ref (am 4)) rfl dX9_sorts_17 ?_
      refine j_aload_n (pc := 20) X dX9_sorts_20 rfl ?_
      refine j_get (pc := 21) X iw_X9_sorts_X9 wm0 rfl 8 (Nat.le_of_ble_eq_true rfl) lk_X9_sorts_2 (v := .ref (am 6)) rfl dX9_sorts_21 ?_
      refine j_iload_n (pc := 24) X dX9_sorts_24 rfl ?_
      refine j_iconst (pc := 25) X dX9_sorts_25 kc_1 ?_
      refine j_isub (pc := 26) X dX9_sorts_26 ?_
      obtain ⟨b14, hf⟩ := gIn_s hf
      refine j_iald (pc := 27) X wm6 b14 dX9_sorts_27 ?_
      obtain ⟨b15, hf⟩ := gIn_s hf
      refine j_iald (pc := 28) X wm4 b15 dX9_sorts_28 ?_
      refine j_aload_n (pc := 29) X dX9_sorts_29 rfl ?_
      refine j_get (pc := 30) X iw_X9_sorts_X9 wm0 rfl 6 (Nat.le_of_ble_eq_true rfl) lk_X9_sorts_1 (v := .ref (am 4)) rfl dX9_sorts_30 ?_
      refine j_iload_n (pc := 33) X dX9_sorts_33 rfl ?_
      obtain ⟨b16, hf⟩ := gIn_s hf
      refine j_iald (pc := 34) X wm4 b16 dX9_sorts_34 ?_
      refine j_icmp_le (tgt := 58) (pc := 35) X dX9_sorts_35 rfl (fun c17 => ?_) (fun c17 => ?_)
      · have hf := kT c17 hf
        exact hk58_7 _ _ hf
      · have hf := kF c17 hf
        refine j_aload_n (pc := 38) X dX9_sorts_38 rfl ?_
        refine j_get (pc := 39) X iw_X9_sorts_X9 wm0 rfl 8 (Nat.le_of_ble_eq_true rfl) lk_X9_sorts_2 (v := .ref (am 6)) rfl dX9_sorts_39 ?_
        refine j_iload_n (pc := 42) X dX9_sorts_42 rfl ?_
        refine j_aload_n (pc := 43) X dX9_sorts_43 rfl ?_
        refine j_get (pc := 44) X iw_X9_sorts_X9 wm0 rfl 8 (Nat.le_of_ble_eq_true rfl) lk_X9_sorts_2 (v := .ref (am 6)) rfl dX9_sorts_44 ?_
        refine j_iload_n (pc := 47) X dX9_sorts_47 rfl ?_
        refine j_iconst (pc := 48) X dX9_sorts_48 kc_1 ?_
        refine j_isub (pc := 49) X dX9_sorts_49 ?_
        obtain ⟨b18, hf⟩ := gIn_s hf
        refine j_iald (pc := 50) X wm6 b18 dX9_sorts_50 ?_
        obtain ⟨b19, hf⟩ := gIn_s hf
        obtain ⟨C20, eC20, hf⟩ := jn_s hf
        refine j_iast (C' := C20) (pc := 51) X Y wm6 b19 dX9_sorts_51 (by rw [eC20]; exact sm6 _) ?_
        refine j_iinc (pc := 52) X dX9_sorts_52 rfl (v := x11 + (-1)) (by rw [kc_m1]) (Nat.le_of_ble_eq_true rfl) (lv' := [some (.ref (am 0)), some (.int x3), some (.int (x11 + (-1)))]) rfl ?_
        refine j_goto (tgt := 12) (pc := 55) X dX9_sorts_55 rfl ?_
        exact ih _ _ hf
set_option maxHeartbeats 4000000 in
set_option maxRecDepth 100000 in
theorem lt_X9_sorts_2 {g : kG} {cI cS : ClassId} {am : Nat → Nat} (X : Kx g cI cS cX9_sorts RX9 wsX9_sorts 3 rm_X9_sorts) {Cr : kS} (hI : kInj 11 am) (Y : Kw g (WM cI am) (kAd 11 am)) (hR : kRV g (WM cI am) 3 cX9_sorts Cr) (N : Nat)   (k71_1 : kS → Option (kS)) (hk71_1 : ∀ (C1 : kS), k71_1 C1 = some Cr → J g (WM cI am) 3 C1 71 [some (.ref (am 0)), none, none] []) : ∀ (n : Nat) (x3 : Int32) (C4 : kS), lp_X9_sorts_2 N k71_1 n x3 C4 = some Cr → J g (WM cI am) 3 C4 2 [some (.ref (am 0)), some (.int x3), none] [] := by
  intro n
  induction n with
  | zero =>
    intro x3 C4 hf
    rw [lp_X9_sorts_2] at hf
    cases hf
  | succ n ih =>
    intro x3 C4 hf
    rw [lp_X9_sorts_2] at hf
    refine j_iload_n (pc := 2) X dX9_sorts_2 rfl ?_
    refine j_aload_n (pc := 3) X dX9_sorts_3 rfl ?_
    refine j_get (pc := 4) X iw_X9_sorts_X9 wm0 rfl 9 (Nat.le_of_ble_eq_true rfl) lk_X9_sorts_0 (v := .int (C4 0 9)) rfl dX9_sorts_4 ?_
    refine j_icmp_ge (tgt := 71) (pc := 7) X dX9_sorts_7 rfl (fun c5 => ?_) (fun c5 => ?_)
    · have hf := kT c5 hf
      refine j_weak (lv' := [some (.ref (am 0)), none, none]) (And.intro rfl trivial) ?_
      exact hk71_1 _ hf
    · have hf := kF c5 hf
      refine j_iload_n (pc := 10) X dX9_sorts_10 rfl ?_
      refine j_istore_n (pc := 11) X dX9_sorts_11 (Nat.le_of_ble_eq_true rfl) (lv' := [some (.ref (am 0)), some (.int x3), some (.int x3)]) rfl ?_
      obtain ⟨k58_7, ek58_7, hf⟩ := jn_s hf
      have hk58_7 : ∀ (x6 : Int32) (C7 : kS), k58_7 x6 C7 = some Cr → J g (WM cI am) 3 C7 58 [some (.ref (am 0)), some (.int x3), some (.int x6)] [] := by
        intro x6 C7 hf
        have hf := jE2 ek58_7 hf
        refine j_aload_n (pc := 58) X dX9_sorts_58 rfl ?_
        refine j_get (pc := 59) X iw_X9_sorts_X9 wm0 rfl 8 (Nat.le_of_ble_eq_true rfl) lk_X9_sorts_2 (v := .ref (am 6)) rfl dX9_sorts_59 ?_
        refine j_iload_n (pc := 62) X dX9_sorts_62 rfl ?_
        refine j_iload_n (pc := 63) X dX9_sorts_63 rfl ?_
        obtain ⟨b9, hf⟩ := gIn_s hf
        obtain ⟨C10, eC10, hf⟩ := jn_s hf
        refine j_iast (C' := C10) (pc := 64) X Y wm6 b9 dX9_sorts_64 (by rw [eC10]; exact sm6 _) ?_
        refine j_iinc (pc := 65) X dX9_sorts_65 rfl (v := x3 + 1) (by rw [kc_1]) (Nat.le_of_ble_eq_true rfl) (lv' := [some (.ref (am 0)), some (.int (x3 + 1)), some (.int x6)]) rfl ?_
        refine j_goto (tgt := 2) (pc := 68) X dX9_sorts_68 rfl ?_
        refine j_weak (lv' := [some (.ref (am 0)), some (.int (x3 + 1)), none]) (And.intro rfl (And.intro rfl trivial)) ?_
        exact ih _ _ hf
      exact lt_X9_sorts_12 X hI Y hR N x3  k58_7 hk58_7 N _ _ hf
set_option maxHeartbeats 4000000 in
set_option maxRecDepth 100000 in
theorem t_X9_sorts {g : kG} {cI cS : ClassId} {am : Nat → Nat} (X : Kx g cI cS cX9_sorts RX9 wsX9_sorts 3 rm_X9_sorts) {Cr : kS} (hI : kInj 11 am) (Y : Kw g (WM cI am) (kAd 11 am)) (hR : kRV g (WM cI am) 3 cX9_sorts Cr) (N : Nat) (C : kS)   (hf : f_X9_sorts N C = some Cr) : J g (WM cI am) 3 C 0 [some (.ref (am 0)), none, none] [] := by
  unfold f_X9_sorts at hf
  refine j_iconst (pc := 0) X dX9_sorts_0 kc_0 ?_
  refine j_istore_n (pc := 1) X dX9_sorts_1 (Nat.le_of_ble_eq_true rfl) (lv' := [some (.ref (am 0)), some (.int 0), none]) rfl ?_
  obtain ⟨k71_1, ek71_1, hf⟩ := jn_s hf
  have hk71_1 : ∀ (C1 : kS), k71_1 C1 = some Cr → J g (WM cI am) 3 C1 71 [some (.ref (am 0)), none, none] [] := by
    intro C1 hf
    have hf := jE1 ek71_1 hf
    exact j_retV hR dX9_sorts_71 hf
  exact lt_X9_sorts_2 X hI Y hR N   k71_1 hk71_1 N _ _ hf
theorem c_X9_sorts {l : Launch} {D : va_G} {cI cS : ClassId} {am : Nat → Nat} (hI : kInj 11 am) (N : Nat) (C : kS)  {Cr : kS} (hf : f_X9_sorts N C = some Cr) : mV l yX9_sorts wsX9_sorts rm_X9_sorts D cI cS (WM cI am) (kAd 11 am) C [.ref (am 0)] Cr :=
  mV.of (by decide) rfl rfl (Nat.le_of_ble_eq_true rfl) (WM_D hI) (fun g X Y hR => t_X9_sorts X hI Y hR N C   hf)
abbrev rm_X9_endOfGroup : Room := { frames := 0, cells := 0, slots := 0, locals := 0 }
theorem lk_X9_endOfGroup_0 : Cond.fieldLink RX9 7 "BlackBarsModel" "s" "[I" ∈ wsX9_endOfGroup := List.mem_of_getElem? (i := 1) rfl
theorem iw_X9_endOfGroup_X9 : ∀ w ∈ wsX90, w ∈ wsX9_endOfGroup := fun _ h => List.mem_cons_of_mem _ (List.mem_append_right _ h)
theorem lk_X9_endOfGroup_1 : Cond.fieldLink RX9 93 "BlackBarsModel" "forms" "I" ∈ wsX9_endOfGroup := List.mem_of_getElem? (i := 2) rfl
def f_X9_endOfGroup (N : Nat) (C : kS) (a1 : Int32) : Option (Int32) := gIn 5 642 (gNz (C 1 (5 : Int32).toNatClampNeg) (gNz (C 1 (5 : Int32).toNatClampNeg) (jn (fun (t4 : Int32) => some t4) (fun j48_4 => jn (j48_4 ((C 0 9) - 1)) (fun j31_5 => if ((C 0 9) / (C 1 (5 : Int32).toNatClampNeg)) = 0 then j31_5 else if (a1 / (C 1 (5 : Int32).toNatClampNeg)) < (((C 0 9) / (C 1 (5 : Int32).toNatClampNeg)) - 1) then j48_4 ((((a1 / (C 1 (5 : Int32).toNatClampNeg)) * (C 1 (5 : Int32).toNatClampNeg)) + (C 1 (5 : Int32).toNatClampNeg)) - 1) else j31_5)))))
theorem hd_X9_endOfGroup : kHd yX9_endOfGroup 1 := by decide +kernel
set_option maxHeartbeats 4000000 in
set_option maxRecDepth 100000 in
theorem t_X9_endOfGroup {g : kG} {cI cS : ClassId} {am : Nat → Nat} {C : kS} (X : Kx g cI cS cX9_endOfGroup RX9 wsX9_endOfGroup 5 rm_X9_endOfGroup) {r : Int32} (hR : kRI g (WM cI am) 5 cX9_endOfGroup .int C r) (N : Nat) (a1 : Int32)  (hf : f_X9_endOfGroup N C a1 = some r) : J g (WM cI am) 5 C 0 [some (.ref (am 0)), some (.int a1), none, none, none] [] := by
  unfold f_X9_endOfGroup at hf
  refine j_aload_n (pc := 0) X dX9_endOfGroup_0 rfl ?_
  refine j_get (pc := 1) X iw_X9_endOfGroup_X9 wm0 rfl 0 (Nat.le_of_ble_eq_true rfl) lk_X9_endOfGroup_0 (v := .ref (am 1)) rfl dX9_endOfGroup_1 ?_
  refine j_iconst (pc := 4) X dX9_endOfGroup_4 kc_5 ?_
  obtain ⟨b1, hf⟩ := gIn_s hf
  refine j_iald (pc := 5) X wm1 b1 dX9_endOfGroup_5 ?_
  refine j_istore_n (pc := 6) X dX9_endOfGroup_6 (Nat.le_of_ble_eq_true rfl) (lv' := [some (.ref (am 0)), some (.int a1), some (.int (C 1 (5 : Int32).toNatClampNeg)), none, none]) rfl ?_
  refine j_aload_n (pc := 7) X dX9_endOfGroup_7 rfl ?_
  refine j_get (pc := 8) X iw_X9_endOfGroup_X9 wm0 rfl 9 (Nat.le_of_ble_eq_true rfl) lk_X9_endOfGroup_1 (v := .int (C 0 9)) rfl dX9_endOfGroup_8 ?_
  refine j_iload_n (pc := 11) X dX9_endOfGroup_11 rfl ?_
  obtain ⟨z2, hf⟩ := gNz_s hf
  refine j_idiv (pc := 12) X dX9_endOfGroup_12 z2 ?_
  refine j_istore_n (pc := 13) X dX9_endOfGroup_13 (Nat.le_of_ble_eq_true rfl) (lv' := [some (.ref (am 0)), some (.int a1), some (.int (C 1 (5 : Int32).toNatClampNeg)), some (.int ((C 0 9) / (C 1 (5 : Int32).toNatClampNeg))), none]) rfl ?_
  refine j_iload_n (pc := 14) X dX9_endOfGroup_14 rfl ?_
  refine j_iload_n (pc := 15) X dX9_endOfGroup_15 rfl ?_
  obtain ⟨z3, hf⟩ := gNz_s hf
  refine j_idiv (pc := 16) X dX9_endOfGroup_16 z3 ?_
  refine j_istore (pc := 17) X dX9_endOfGroup_17 (Nat.le_of_ble_eq_true rfl) (lv' := [some (.ref (am 0)), some (.int a1), some (.int (C 1 (5 : Int32).toNatClampNeg)), some (.int ((C 0 9) / (C 1 (5 : Int32).toNatClampNeg))), some (.int (a1 / (C 1 (5 : Int32).toNatClampNeg)))]) rfl ?_
  refine j_iload_n (pc := 19) X dX9_endOfGroup_19 rfl ?_
  obtain ⟨j48_4, ej48_4, hf⟩ := jn_s hf
  have hj48_4 : ∀ (t4 : Int32), j48_4 t4 = some r → J g (WM cI am) 5 C 48 [some (.ref (am 0)), some (.int a1), some (.int (C 1 (5 : Int32).toNatClampNeg)), some (.int ((C 0 9) / (C 1 (5 : Int32).toNatClampNeg))), some (.int (a1 / (C 1 (5 : Int32).toNatClampNeg)))] [.int t4] := by
    intro t4 hf
    have hf := jE1 ej48_4 hf
    exact j_retI hR dX9_endOfGroup_48 hf
  obtain ⟨j31_5, ej31_5, hf⟩ := jn_s hf
  have hj31_5 : ∀ (_ : Unit), j31_5 = some r → J g (WM cI am) 5 C 31 [some (.ref (am 0)), some (.int a1), some (.int (C 1 (5 : Int32).toNatClampNeg)), some (.int ((C 0 9) / (C 1 (5 : Int32).toNatClampNeg))), some (.int (a1 / (C 1 (5 : Int32).toNatClampNeg)))] [] := by
    intro _ hf
    have hf := jE0 ej31_5 hf
    refine j_aload_n (pc := 31) X dX9_endOfGroup_31 rfl ?_
    refine j_get (pc := 32) X iw_X9_endOfGroup_X9 wm0 rfl 9 (Nat.le_of_ble_eq_true rfl) lk_X9_endOfGroup_1 (v := .int (C 0 9)) rfl dX9_endOfGroup_32 ?_
    refine j_iconst (pc := 35) X dX9_endOfGroup_35 kc_1 ?_
    refine j_isub (pc := 36) X dX9_endOfGroup_36 ?_
    refine j_goto (tgt := 48) (pc := 37) X dX9_endOfGroup_37 rfl ?_
    exact hj48_4 _ hf
  refine j_if_eq (tgt := 31) (pc := 20) X dX9_endOfGroup_20 rfl (fun c7 => ?_) (fun c7 => ?_)
  · have hf := kT c7 hf
    exact hj31_5 () hf
  · have hf := kF c7 hf
    refine j_iload (pc := 23) X dX9_endOfGroup_23 rfl ?_
    refine j_iload_n (pc := 25) X dX9_endOfGroup_25 rfl ?_
    refine j_iconst (pc := 26) X dX9_endOfGroup_26 kc_1 ?_
    refine j_isub (pc := 27) X dX9_endOfGroup_27 ?_
    refine j_icmp_lt (tgt := 40) (pc := 28) X dX9_endOfGroup_28 rfl (fun c8 => ?_) (fun c8 => ?_)
    · have hf := kT c8 hf
      refine j_iload (pc := 40) X dX9_endOfGroup_40 rfl ?_
      refine j_iload_n (pc := 42) X dX9_endOfGroup_42 rfl ?_
      refine j_imul (pc := 43) X dX9_endOfGroup_43 ?_
      refine j_iload_n (pc := 44) X dX9_endOfGroup_44 rfl ?_
      refine j_iadd (pc := 45) X dX9_endOfGroup_45 ?_
      refine j_iconst (pc := 46) X dX9_endOfGroup_46 kc_1 ?_
      refine j_isub (pc := 47) X dX9_endOfGroup_47 ?_
      exact hj48_4 _ hf
    · have hf := kF c8 hf
      exact hj31_5 () hf
theorem c_X9_endOfGroup {l : Launch} {D : va_G} {cI cS : ClassId} {am : Nat → Nat} (N : Nat) (C : kS) (a1 : Int32) {r : Int32} (hf : f_X9_endOfGroup N C a1 = some r) : mI l yX9_endOfGroup wsX9_endOfGroup rm_X9_endOfGroup D cI cS (WM cI am) C [.ref (am 0), .int a1] r :=
  mI.of (by decide) rfl rfl (Nat.le_of_ble_eq_true rfl) (fun g X hR => t_X9_endOfGroup X  hR N a1  hf)
abbrev rm_X9_bars : Room := { frames := 2, cells := 0, slots := 0, locals := 41 }
theorem lk_X9_bars_0 : Cond.fieldLink RX9 7 "BlackBarsModel" "s" "[I" ∈ wsX9_bars := List.mem_of_getElem? (i := 1) rfl
theorem iw_X9_bars_X9 : ∀ w ∈ wsX90, w ∈ wsX9_bars := fun _ h => List.mem_cons_of_mem _ (List.mem_append_right _ h)
theorem lk_X9_bars_1 : Cond.fieldLink RX9 93 "BlackBarsModel" "forms" "I" ∈ wsX9_bars := List.mem_of_getElem? (i := 2) rfl
theorem lk_X9_bars_3 : Cond.fieldLink RX9 22 "BlackBarsModel" "barWidth" "[I" ∈ wsX9_bars := List.mem_of_getElem? (i := 4) rfl
theorem lk_X9_bars_4 : Cond.fieldLink RX9 25 "BlackBarsModel" "sorted" "[I" ∈ wsX9_bars := List.mem_of_getElem? (i := 5) rfl
theorem lk_X9_bars_2 : Cond.fieldLink RX9 19 "BlackBarsModel" "formWidth" "[I" ∈ wsX9_bars := List.mem_of_getElem? (i := 3) rfl
def lp_X9_bars_127 (N : Nat) (a1 : Int32) (k181_10 : kS → Option (kS)) : Nat → Int32 → kS → Option (kS)
  | 0, _, _ => none
  | n + 1, x12, C13 => if (C13 0 9) ≤ x12 then k181_10 C13 else gIn x12 40 (jn (fun (t16 : Int32) => gIn t16 40 (gIn (C13 6 t16.toNatClampNeg) 40 (gIn (C13 6 x12.toNatClampNeg) 40 (jn (up1 C13 5 (upd (C13 5) ((C13 6 x12.toNatClampNeg).toNatClampNeg) (C13 4 (C13 6 t16.toNatClampNeg).toNatClampNeg))) (fun C21 : kS => lp_X9_bars_127 N a1 k181_10 n (x12 + 1) C21))))) (fun j172_16 => if a1 = 2 then (f_X9_endOfGroup N C13 x12).bind (fun r24 => j172_16 r24) else j172_16 ((C13 0 9) - 1)))
def lp_X9_bars_17 (N : Nat) (a1 : Int32) (a2 : Int32) (k116_5 : kS → Option (kS)) : Nat → Int32 → kS → Option (kS)
  | 0, _, _ => none
  | n + 1, x25, C26 => if (C26 0 9) ≤ x25 then k116_5 C26 else (f_X9_each N C26).bind (fun r29 => gNz r29 ((f_X9_widthAt N C26 (554 + (9 * (x25 / r29)))).bind (fun r32 => (f_X9_each N C26).bind (fun r34 => gNz r34 (jn (fun (t36 : Int32) => gIn x25 40 (jn (up1 C26 4 (upd (C26 4) (x25.toNatClampNeg) t36)) (fun C39 : kS => jn (fun (t40 : Int32) => gIn x25 40 (jn (up1 C39 5 (upd (C39 5) (x25.toNatClampNeg) t40)) (fun C43 : kS => lp_X9_bars_17 N a1 a2 k116_5 n (x25 + 1) C43))) (fun j109_40 => if a1 = 1 then gIn x25 40 (gNz a2 (j109_40 (((((C39 4 x25.toNatClampNeg) + a2) - 1) / a2) * a2))) else gIn x25 40 (j109_40 (C39 4 x25.toNatClampNeg)))))) (fun j75_36 => if (x25 - x25 / r34 * r34) = 0 then j75_36 r32 else (f_X9_endingAt N C26 x25).bind (fun r50 => (f_X9_widthAt N C26 r50).bind (fun r52 => j75_36 (r32 + r52)))))))))
def f_X9_bars (N : Nat) (C : kS) (a1 : Int32) (a2 : Int32) : Option (kS) := gIn 1 642 ((f_X9_each N C).bind (fun r3 => jn (up1 C 0 (upd (C 0) 9 ((C 1 (1 : Int32).toNatClampNeg) * r3))) (fun C4 : kS => jn (fun (C5 : kS) => if a1 ≤ 1 then some C5 else (f_X9_sorts N C5).bind (fun C9 => jn (fun (C10 : kS) => some C10) (fun k181_10 => lp_X9_bars_127 N a1 k181_10 N 0 C9))) (fun k116_5 => lp_X9_bars_17 N a1 a2 k116_5 N 0 C4))))
theorem hd_X9_bars : kHd yX9_bars 2 := by decide +kernel
set_option maxHeartbeats 4000000 in
set_option maxRecDepth 100000 in
theorem lt_X9_bars_127 {g : kG} {cI cS : ClassId} {am : Nat → Nat} (X : Kx g cI cS cX9_bars RX9 wsX9_bars 5 rm_X9_bars) {Cr : kS} (hI : kInj 11 am) (Y : Kw g (WM cI am) (kAd 11 am)) (hR : kRV g (WM cI am) 5 cX9_bars Cr) (N : Nat) (a1 : Int32) (a2 : Int32)  (k181_10 : kS → Option (kS)) (hk181_10 : ∀ (C10 : kS), k181_10 C10 = some Cr → J g (WM cI am) 5 C10 181 [some (.ref (am 0)), some (.int a1), some (.int a2), none, none] []) : ∀ (n : Nat) (x12 : Int32) (C13 : kS), lp_X9_bars_127 N a1 k181_10 n x12 C13 = some Cr → J g (WM cI am) 5 C13 127 [some (.ref (am 0)), some (.int a1), some (.int a2), some (.int x12), none] [] := by
  intro n
  induction n with
  | zero =>
    intro x12 C13 hf
    rw [lp_X9_bars_127] at hf
    cases hf
  | succ n ih =>
    intro x12 C13 hf
    rw [lp_X9_bars_127] at hf
    refine j_iload_n (pc := 127) X dX9_bars_127 rfl ?_
    refine j_aload_n (pc := 128) X dX9_bars_128 rfl ?_
    refine j_get (pc := 129) X iw_X9_bars_X9 wm0 rfl 9 (Nat.le_of_ble_eq_true rfl) lk_X9_bars_1 (v := .int (C13 0 9)) rfl dX9_bars_129 ?_
    refine j_icmp_ge (tgt := 181) (pc := 132) X dX9_bars_132 rfl (fun c14 => ?_) (fun c14 => ?_)
    · have hf := kT c14 hf
      refine j_weak (lv' := [some (.ref (am 0)), some (.int a1), some (.int a2), none, none]) (And.intro rfl (And.intro rfl (And.intro rfl trivial))) ?_
      exact hk181_10 _ hf
    · have hf := kF c14 hf
      refine j_aload_n (pc := 135) X dX9_bars_135 rfl ?_
      refine j_get (pc := 136) X iw_X9_bars_X9 wm0 rfl 7 (Nat.le_of_ble_eq_true rfl) lk_X9_bars_3 (v := .ref (am 5)) rfl dX9_bars_136 ?_
      refine j_aload_n (pc := 139) X dX9_bars_139 rfl ?_
      refine j_get (pc := 140) X iw_X9_bars_X9 wm0 rfl 8 (Nat.le_of_ble_eq_true rfl) lk_X9_bars_4 (v := .ref (am 6)) rfl dX9_bars_140 ?_
      refine j_iload_n (pc := 143) X dX9_bars_143 rfl ?_
      obtain ⟨b15, hf⟩ := gIn_s hf
      refine j_iald (pc := 144) X wm6 b15 dX9_bars_144 ?_
      refine j_aload_n (pc := 145) X dX9_bars_145 rfl ?_
      refine j_get (pc := 146) X iw_X9_bars_X9 wm0 rfl 6 (Nat.le_of_ble_eq_true rfl) lk_X9_bars_2 (v := .ref (am 4)) rfl dX9_bars_146 ?_
      refine j_aload_n (pc := 149) X dX9_bars_149 rfl ?_
      refine j_get (pc := 150) X iw_X9_bars_X9 wm0 rfl 8 (Nat.le_of_ble_eq_true rfl) lk_X9_bars_4 (v := .ref (am 6)) rfl dX9_bars_150 ?_
      refine j_iload_n (pc := 153) X dX9_bars_153 rfl ?_
      refine j_iconst (pc := 154) X dX9_bars_154 kc_2 ?_
      obtain ⟨j172_16, ej172_16, hf⟩ := jn_s hf
      have hj172_16 : ∀ (t16 : Int32), j172_16 t16 = some Cr → J g (WM cI am) 5 C13 172 [some (.ref (am 0)), some (.int a1), some (.int a2), some (.int x12), none] [.int t16, .ref (am 6), .ref (am 4), .int (C13 6 x12.toNatClampNeg), .ref (am 5)] := by
        intro t16 hf
        have hf := jE1 ej172_16 hf
        obtain ⟨b18, hf⟩ := gIn_s hf
        refine j_iald (pc := 172) X wm6 b18 dX9_bars_172 ?_
        obtain ⟨b19, hf⟩ := gIn_s hf
        refine j_iald (pc := 173) X wm4 b19 dX9_bars_173 ?_
        obtain ⟨b20, hf⟩ := gIn_s hf
        obtain ⟨C21, eC21, hf⟩ := jn_s hf
        refine j_iast (C' := C21) (pc := 174) X Y wm5 b20 dX9_bars_174 (by rw [eC21]; exact sm5 _) ?_
        refine j_iinc (pc := 175) X dX9_bars_175 rfl (v := x12 + 1) (by rw [kc_1]) (Nat.le_of_ble_eq_true rfl) (lv' := [some (.ref (am 0)), some (.int a1), some (.int a2), some (.int (x12 + 1)), none]) rfl ?_
        refine j_goto (tgt := 127) (pc := 178) X dX9_bars_178 rfl ?_
        exact ih _ _ hf
      refine j_icmp_ne (tgt := 166) (pc := 155) X dX9_bars_155 rfl (fun c22 => ?_) (fun c22 => ?_)
      · have hf := kF c22 hf
        refine j_aload_n (pc := 166) X dX9_bars_166 rfl ?_
        refine j_get (pc := 167) X iw_X9_bars_X9 wm0 rfl 9 (Nat.le_of_ble_eq_true rfl) lk_X9_bars_1 (v := .int (C13 0 9)) rfl dX9_bars_167 ?_
        refine j_iconst (pc := 170) X dX9_bars_170 kc_1 ?_
        refine j_isub (pc := 171) X dX9_bars_171 ?_
        exact hj172_16 _ hf
      · have hf := kT c22 hf
        refine j_aload_n (pc := 158) X dX9_bars_158 rfl ?_
        refine j_iload_n (pc := 159) X dX9_bars_159 rfl ?_
        obtain ⟨r24, h23, hf⟩ := kB hf
        refine j_callI (pc := 160) X (c_X9_endOfGroup N C13 x12 h23) gX9_bars_X9_endOfGroup rfl ⟨rfl, rfl⟩ rfl hd_X9_endOfGroup ⟨(Nat.le_of_ble_eq_true rfl), (Nat.le_of_ble_eq_true rfl)⟩ wm0 rfl rfl rfl (Nat.le_of_ble_eq_true rfl) rfl dX9_bars_160 ?_
        refine j_goto (tgt := 172) (pc := 163) X dX9_bars_163 rfl ?_
        exact hj172_16 _ hf
set_option maxHeartbeats 4000000 in
set_option maxRecDepth 100000 in
theorem lt_X9_bars_17 {g : kG} {cI cS : ClassId} {am : Nat → Nat} (X : Kx g cI cS cX9_bars RX9 wsX9_bars 5 rm_X9_bars) {Cr : kS} (hI : kInj 11 am) (Y : Kw g (WM cI am) (kAd 11 am)) (hR : kRV g (WM cI am) 5 cX9_bars Cr) (N : Nat) (a1 : Int32) (a2 : Int32)  (k116_5 : kS → Option (kS)) (hk116_5 : ∀ (C5 : kS), k116_5 C5 = some Cr → J g (WM cI am) 5 C5 116 [some (.ref (am 0)), some (.int a1), some (.int a2), none, none] []) : ∀ (n : Nat) (x25 : Int32) (C26 : kS), lp_X9_bars_17 N a1 a2 k116_5 n x25 C26 = some Cr → J g (WM cI am) 5 C26 17 [some (.ref (am 0)), some (.int a1), some (.int a2), some (.int x25), none] [] := by
  intro n
  induction n with
  | zero =>
    intro x25 C26 hf
    rw [lp_X9_bars_17] at hf
    cases hf
  | succ n ih =>
    intro x25 C26 hf
    rw [lp_X9_bars_17] at hf
    refine j_iload_n (pc := 17) X dX9_bars_17 rfl ?_
    refine j_aload_n (pc := 18) X dX9_bars_18 rfl ?_
    refine j_get (pc := 19) X iw_X9_bars_X9 wm0 rfl 9 (Nat.le_of_ble_eq_true rfl) lk_X9_bars_1 (v := .int (C26 0 9)) rfl dX9_bars_19 ?_
    refine j_icmp_ge (tgt := 116) (pc := 22) X dX9_bars_22 rfl (fun c27 => ?_) (fun c27 => ?_)
    · have hf := kT c27 hf
      refine j_weak (lv' := [some (.ref (am 0)), some (.int a1), some (.int a2), none, none]) (And.intro rfl (And.intro rfl (And.intro rfl trivial))) ?_
      exact hk116_5 _ hf
    · have hf := kF c27 hf
      refine j_aload_n (pc := 25) X dX9_bars_25 rfl ?_
      refine j_sipush (pc := 26) X dX9_bars_26 ks_554 ?_
      refine j_bipush (pc := 29) X dX9_bars_29 kb_9 ?_
      refine j_iload_n (pc := 31) X dX9_bars_31 rfl ?_
      refine j_aload_n (pc := 32) X dX9_bars_32 rfl ?_
      obtain ⟨r29, h28, hf⟩ := kB hf
      refine j_callI (pc := 33) X (c_X9_each N C26  h28) gX9_bars_X9_each rfl ⟨rfl, rfl⟩ rfl hd_X9_each ⟨(Nat.le_of_ble_eq_true rfl), (Nat.le_of_ble_eq_true rfl)⟩ wm0 rfl rfl rfl (Nat.le_of_ble_eq_true rfl) rfl dX9_bars_33 ?_
      obtain ⟨z30, hf⟩ := gNz_s hf
      refine j_idiv (pc := 36) X dX9_bars_36 z30 ?_
      refine j_imul (pc := 37) X dX9_bars_37 ?_
      refine j_iadd (pc := 38) X dX9_bars_38 ?_
      obtain ⟨r32, h31, hf⟩ := kB hf
      refine j_callI (pc := 39) X (c_X9_widthAt N C26 (554 + (9 * (x25 / r29))) h31) gX9_bars_X9_widthAt rfl ⟨rfl, rfl⟩ rfl hd_X9_widthAt ⟨(Nat.le_of_ble_eq_true rfl), (Nat.le_of_ble_eq_true rfl)⟩ wm0 rfl rfl rfl (Nat.le_of_ble_eq_true rfl) rfl dX9_bars_39 ?_
      refine j_istore (pc := 42) X dX9_bars_42 (Nat.le_of_ble_eq_true rfl) (lv' := [some (.ref (am 0)), some (.int a1), some (.int a2), some (.int x25), some (.int r32)]) rfl ?_
      refine j_aload_n (pc := 44) X dX9_bars_44 rfl ?_
      refine j_get (pc := 45) X iw_X9_bars_X9 wm0 rfl 6 (Nat.le_of_ble_eq_true rfl) lk_X9_bars_2 (v := .ref (am 4)) rfl dX9_bars_45 ?_
      refine j_iload_n (pc := 48) X dX9_bars_48 rfl ?_
      refine j_iload_n (pc := 49) X dX9_bars_49 rfl ?_
      refine j_aload_n (pc := 50) X dX9_bars_50 rfl ?_
      obtain ⟨r34, h33, hf⟩ := kB hf
      refine j_callI (pc := 51) X (c_X9_each N C26  h33) gX9_bars_X9_each rfl ⟨rfl, rfl⟩ rfl hd_X9_each ⟨(Nat.le_of_ble_eq_true rfl), (Nat.le_of_ble_eq_true rfl)⟩ wm0 rfl rfl rfl (Nat.le_of_ble_eq_true rfl) rfl dX9_bars_51 ?_
      obtain ⟨z35, hf⟩ := gNz_s hf
      refine j_irem (pc := 54) X dX9_bars_54 z35 ?_
      obtain ⟨j75_36, ej75_36, hf⟩ := jn_s hf
      have hj75_36 : ∀ (t36 : Int32), j75_36 t36 = some Cr → J g (WM cI am) 5 C26 75 [some (.ref (am 0)), some (.int a1), some (.int a2), some (.int x25), some (.int r32)] [.int t36, .int x25, .ref (am 4)] := by
        intro t36 hf
        have hf := jE1 ej75_36 hf
        obtain ⟨b38, hf⟩ := gIn_s hf
        obtain ⟨C39, eC39, hf⟩ := jn_s hf
        refine j_iast (C' := C39) (pc := 75) X Y wm4 b38 dX9_bars_75 (by rw [eC39]; exact sm4 _) ?_
        refine j_aload_n (pc := 76) X dX9_bars_76 rfl ?_
        refine j_get (pc := 77) X iw_X9_bars_X9 wm0 rfl 7 (Nat.le_of_ble_eq_true rfl) lk_X9_bars_3 (v := .ref (am 5)) rfl dX9_bars_77 ?_
        refine j_iload_n (pc := 80) X dX9_bars_80 rfl ?_
        refine j_iload_n (pc := 81) X dX9_bars_81 rfl ?_
        refine j_iconst (pc := 82) X dX9_bars_82 kc_1 ?_
        obtain ⟨j109_40, ej109_40, hf⟩ := jn_s hf
        have hj109_40 : ∀ (t40 : Int32), j109_40 t40 = some Cr → J g (WM cI am) 5 C39 109 [some (.ref (am 0)), some (.int a1), some (.int a2), some (.int x25), some (.int r32)] [.int t40, .int x25, .ref (am 5)] := by
          intro t40 hf
          have hf := jE1 ej109_40 hf
          obtain ⟨b42, hf⟩ := gIn_s hf
          obtain ⟨C43, eC43, hf⟩ := jn_s hf
          refine j_iast (C' := C43) (pc := 109) X Y wm5 b42 dX9_bars_109 (by rw [eC43]; exact sm5 _) ?_
          refine j_iinc (pc := 110) X dX9_bars_110 rfl (v := x25 + 1) (by rw [kc_1]) (Nat.le_of_ble_eq_true rfl) (lv' := [some (.ref (am 0)), some (.int a1), some (.int a2), some (.int (x25 + 1)), some (.int r32)]) rfl ?_
          refine j_goto (tgt := 17) (pc := 113) X dX9_bars_113 rfl ?_
          refine j_weak (lv' := [some (.ref (am 0)), some (.int a1), some (.int a2), some (.int (x25 + 1)), none]) (And.intro rfl (And.intro rfl (And.intro rfl (And.intro rfl trivial)))) ?_
          exact ih _ _ hf
        refine j_icmp_ne (tgt := 103) (pc := 83) X dX9_bars_83 rfl (fun c44 => ?_) (fun c44 => ?_)
        · have hf := kF c44 hf
          refine j_aload_n (pc := 103) X dX9_bars_103 rfl ?_
          refine j_get (pc := 104) X iw_X9_bars_X9 wm0 rfl 6 (Nat.le_of_ble_eq_true rfl) lk_X9_bars_2 (v := .ref (am 4)) rfl dX9_bars_104 ?_
          refine j_iload_n (pc := 107) X dX9_bars_107 rfl ?_
          obtain ⟨b45, hf⟩ := gIn_s hf
          refine j_iald (pc := 108) X wm4 b45 dX9_bars_108 ?_
          exact hj109_40 _ hf
        · have hf := kT c44 hf
          refine j_aload_n (pc := 86) X dX9_bars_86 rfl ?_
          refine j_get (pc := 87) X iw_X9_bars_X9 wm0 rfl 6 (Nat.le_of_ble_eq_true rfl) lk_X9_bars_2 (v := .ref (am 4)) rfl dX9_bars_87 ?_
          refine j_iload_n (pc := 90) X dX9_bars_90 rfl ?_
          obtain ⟨b46, hf⟩ := gIn_s hf
          refine j_iald (pc := 91) X wm4 b46 dX9_bars_91 ?_
          refine j_iload_n (pc := 92) X dX9_bars_92 rfl ?_
          refine j_iadd (pc := 93) X dX9_bars_93 ?_
          refine j_iconst (pc := 94) X dX9_bars_94 kc_1 ?_
          refine j_isub (pc := 95) X dX9_bars_95 ?_
          refine j_iload_n (pc := 96) X dX9_bars_96 rfl ?_
          obtain ⟨z47, hf⟩ := gNz_s hf
          refine j_idiv (pc := 97) X dX9_bars_97 z47 ?_
          refine j_iload_n (pc := 98) X dX9_bars_98 rfl ?_
          refine j_imul (pc := 99) X dX9_bars_99 ?_
          refine j_goto (tgt := 109) (pc := 100) X dX9_bars_100 rfl ?_
          exact hj109_40 _ hf
      refine j_if_ne (tgt := 63) (pc := 55) X dX9_bars_55 rfl (fun c48 => ?_) (fun c48 => ?_)
      · have hf := kF c48 hf
        refine j_iload (pc := 63) X dX9_bars_63 rfl ?_
        refine j_aload_n (pc := 65) X dX9_bars_65 rfl ?_
        refine j_aload_n (pc := 66) X dX9_bars_66 rfl ?_
        refine j_iload_n (pc := 67) X dX9_bars_67 rfl ?_
        obtain ⟨r50, h49, hf⟩ := kB hf
        refine j_callI (pc := 68) X (c_X9_endingAt N C26 x25 h49) gX9_bars_X9_endingAt rfl ⟨rfl, rfl⟩ rfl hd_X9_endingAt ⟨(Nat.le_of_ble_eq_true rfl), (Nat.le_of_ble_eq_true rfl)⟩ wm0 rfl rfl rfl (Nat.le_of_ble_eq_true rfl) rfl dX9_bars_68 ?_
        obtain ⟨r52, h51, hf⟩ := kB hf
        refine j_callI (pc := 71) X (c_X9_widthAt N C26 r50 h51) gX9_bars_X9_widthAt rfl ⟨rfl, rfl⟩ rfl hd_X9_widthAt ⟨(Nat.le_of_ble_eq_true rfl), (Nat.le_of_ble_eq_true rfl)⟩ wm0 rfl rfl rfl (Nat.le_of_ble_eq_true rfl) rfl dX9_bars_71 ?_
        refine j_iadd (pc := 74) X dX9_bars_74 ?_
        exact hj75_36 _ hf
      · have hf := kT c48 hf
        refine j_iload (pc := 58) X dX9_bars_58 rfl ?_
        refine j_goto (tgt := 75) (pc := 60) X dX9_bars_60 rfl ?_
        exact hj75_36 _ hf
set_option maxHeartbeats 4000000 in
set_option maxRecDepth 100000 in
theorem t_X9_bars {g : kG} {cI cS : ClassId} {am : Nat → Nat} (X : Kx g cI cS cX9_bars RX9 wsX9_bars 5 rm_X9_bars) {Cr : kS} (hI : kInj 11 am) (Y : Kw g (WM cI am) (kAd 11 am)) (hR : kRV g (WM cI am) 5 cX9_bars Cr) (N : Nat) (C : kS) (a1 : Int32) (a2 : Int32)  (hf : f_X9_bars N C a1 a2 = some Cr) : J g (WM cI am) 5 C 0 [some (.ref (am 0)), some (.int a1), some (.int a2), none, none] [] := by
  unfold f_X9_bars at hf
  refine j_aload_n (pc := 0) X dX9_bars_0 rfl ?_
  refine j_aload_n (pc := 1) X dX9_bars_1 rfl ?_
  refine j_get (pc := 2) X iw_X9_bars_X9 wm0 rfl 0 (Nat.le_of_ble_eq_true rfl) lk_X9_bars_0 (v := .ref (am 1)) rfl dX9_bars_2 ?_
  refine j_iconst (pc := 5) X dX9_bars_5 kc_1 ?_
  obtain ⟨b1, hf⟩ := gIn_s hf
  refine j_iald (pc := 6) X wm1 b1 dX9_bars_6 ?_
  refine j_aload_n (pc := 7) X dX9_bars_7 rfl ?_
  obtain ⟨r3, h2, hf⟩ := kB hf
  refine j_callI (pc := 8) X (c_X9_each N C  h2) gX9_bars_X9_each rfl ⟨rfl, rfl⟩ rfl hd_X9_each ⟨(Nat.le_of_ble_eq_true rfl), (Nat.le_of_ble_eq_true rfl)⟩ wm0 rfl rfl rfl (Nat.le_of_ble_eq_true rfl) rfl dX9_bars_8 ?_
  refine j_imul (pc := 11) X dX9_bars_11 ?_
  obtain ⟨C4, eC4, hf⟩ := jn_s hf
  refine j_put (C' := C4) (pc := 12) X Y iw_X9_bars_X9 tyX9 tyX9_ok nmX9 wm0 rfl 9 (Nat.le_of_ble_eq_true rfl) lk_X9_bars_1 rfl (tyX9_ok 9 (Nat.le_of_ble_eq_true rfl)) (Nat.le_of_ble_eq_true rfl) dX9_bars_12 (by rw [eC4]; exact sm0_9 _) ?_
  refine j_iconst (pc := 15) X dX9_bars_15 kc_0 ?_
  refine j_istore_n (pc := 16) X dX9_bars_16 (Nat.le_of_ble_eq_true rfl) (lv' := [some (.ref (am 0)), some (.int a1), some (.int a2), some (.int 0), none]) rfl ?_
  obtain ⟨k116_5, ek116_5, hf⟩ := jn_s hf
  have hk116_5 : ∀ (C5 : kS), k116_5 C5 = some Cr → J g (WM cI am) 5 C5 116 [some (.ref (am 0)), some (.int a1), some (.int a2), none, none] [] := by
    intro C5 hf
    have hf := jE1 ek116_5 hf
    refine j_iload_n (pc := 116) X dX9_bars_116 rfl ?_
    refine j_iconst (pc := 117) X dX9_bars_117 kc_1 ?_
    refine j_icmp_le (tgt := 181) (pc := 118) X dX9_bars_118 rfl (fun c7 => ?_) (fun c7 => ?_)
    · have hf := kT c7 hf
      exact j_retV hR dX9_bars_181 hf
    · have hf := kF c7 hf
      refine j_aload_n (pc := 121) X dX9_bars_121 rfl ?_
      obtain ⟨C9, h8, hf⟩ := kB hf
      refine j_callV (pc := 122) X Y (c_X9_sorts hI N C5  h8) gX9_bars_X9_sorts rfl ⟨rfl, rfl⟩ rfl hd_X9_sorts ⟨(Nat.le_of_ble_eq_true rfl), (Nat.le_of_ble_eq_true rfl)⟩ wm0 rfl rfl rfl (Nat.le_of_ble_eq_true rfl) rfl dX9_bars_122 ?_
      refine j_iconst (pc := 125) X dX9_bars_125 kc_0 ?_
      refine j_istore_n (pc := 126) X dX9_bars_126 (Nat.le_of_ble_eq_true rfl) (lv' := [some (.ref (am 0)), some (.int a1), some (.int a2), some (.int 0), none]) rfl ?_
      obtain ⟨k181_10, ek181_10, hf⟩ := jn_s hf
      have hk181_10 : ∀ (C10 : kS), k181_10 C10 = some Cr → J g (WM cI am) 5 C10 181 [some (.ref (am 0)), some (.int a1), some (.int a2), none, none] [] := by
        intro C10 hf
        have hf := jE1 ek181_10 hf
        exact j_retV hR dX9_bars_181 hf
      exact lt_X9_bars_127 X hI Y hR N a1 a2   k181_10 hk181_10 N _ _ hf
  exact lt_X9_bars_17 X hI Y hR N a1 a2   k116_5 hk116_5 N _ _ hf
theorem c_X9_bars {l : Launch} {D : va_G} {cI cS : ClassId} {am : Nat → Nat} (hI : kInj 11 am) (N : Nat) (C : kS) (a1 : Int32) (a2 : Int32) {Cr : kS} (hf : f_X9_bars N C a1 a2 = some Cr) : mV l yX9_bars wsX9_bars rm_X9_bars D cI cS (WM cI am) (kAd 11 am) C [.ref (am 0), .int a1, .int a2] Cr :=
  mV.of (by decide) rfl rfl (Nat.le_of_ble_eq_true rfl) (WM_D hI) (fun g X Y hR => t_X9_bars X hI Y hR N C a1 a2  hf)
abbrev rm_X9_bits : Room := { frames := 0, cells := 0, slots := 0, locals := 0 }
def lp_X9_bits_4 (N : Nat) (a0 : Int32) (k24_1 : Int32 → Option (Int32)) : Nat → Int32 → Int32 → Option (Int32)
  | 0, _, _ => none
  | n + 1, x3, x4 => if 8 ≤ x4 then k24_1 x3 else lp_X9_bits_4 N a0 k24_1 n (x3 + ((a0 >>> (x4 &&& 31)) &&& 1)) (x4 + 1)
def f_X9_bits (N : Nat) (a0 : Int32) : Option (Int32) := jn (fun (x1 : Int32) => some x1) (fun k24_1 => lp_X9_bits_4 N a0 k24_1 N 0 0)
theorem hd_X9_bits : kHd yX9_bits 1 := by decide +kernel
set_option maxHeartbeats 4000000 in
set_option maxRecDepth 100000 in
theorem lt_X9_bits_4 {g : kG} {cI cS : ClassId} (X : Kx g cI cS cX9_bits RX9 wsX9_bits 3 rm_X9_bits) {r : Int32} (hR : kRI g kWe 3 cX9_bits .int kC0 r) (N : Nat) (a0 : Int32)  (k24_1 : Int32 → Option (Int32)) (hk24_1 : ∀ (x1 : Int32), k24_1 x1 = some r → J g kWe 3 kC0 24 [some (.int a0), some (.int x1), none] []) : ∀ (n : Nat) (x3 : Int32) (x4 : Int32), lp_X9_bits_4 N a0 k24_1 n x3 x4 = some r → J g kWe 3 kC0 4 [some (.int a0), some (.int x3), some (.int x4)] [] := by
  intro n
  induction n with
  | zero =>
    intro x3 x4 hf
    rw [lp_X9_bits_4] at hf
    cases hf
  | succ n ih =>
    intro x3 x4 hf
    rw [lp_X9_bits_4] at hf
    refine j_iload_n (pc := 4) X dX9_bits_4 rfl ?_
    refine j_bipush (pc := 5) X dX9_bits_5 kb_8 ?_
    refine j_icmp_ge (tgt := 24) (pc := 7) X dX9_bits_7 rfl (fun c5 => ?_) (fun c5 => ?_)
    · have hf := kT c5 hf
      refine j_weak (lv' := [some (.int a0), some (.int x3), none]) (And.intro rfl (And.intro rfl trivial)) ?_
      exact hk24_1 _ hf
    · have hf := kF c5 hf
      refine j_iload_n (pc := 10) X dX9_bits_10 rfl ?_
      refine j_iload_n (pc := 11) X dX9_bits_11 rfl ?_
      refine j_iload_n (pc := 12) X dX9_bits_12 rfl ?_
      refine j_ishr (pc := 13) X dX9_bits_13 ?_
      refine j_iconst (pc := 14) X dX9_bits_14 kc_1 ?_
      refine j_iand (pc := 15) X dX9_bits_15 ?_
      refine j_iadd (pc := 16) X dX9_bits_16 ?_
      refine j_istore_n (pc := 17) X dX9_bits_17 (Nat.le_of_ble_eq_true rfl) (lv' := [some (.int a0), some (.int (x3 + ((a0 >>> (x4 &&& 31)) &&& 1))), some (.int x4)]) rfl ?_
      refine j_iinc (pc := 18) X dX9_bits_18 rfl (v := x4 + 1) (by rw [kc_1]) (Nat.le_of_ble_eq_true rfl) (lv' := [some (.int a0), some (.int (x3 + ((a0 >>> (x4 &&& 31)) &&& 1))), some (.int (x4 + 1))]) rfl ?_
      refine j_goto (tgt := 4) (pc := 21) X dX9_bits_21 rfl ?_
      exact ih _ _ hf
set_option maxHeartbeats 4000000 in
set_option maxRecDepth 100000 in
theorem t_X9_bits {g : kG} {cI cS : ClassId} (X : Kx g cI cS cX9_bits RX9 wsX9_bits 3 rm_X9_bits) {r : Int32} (hR : kRI g kWe 3 cX9_bits .int kC0 r) (N : Nat) (a0 : Int32)  (hf : f_X9_bits N a0 = some r) : J g kWe 3 kC0 0 [some (.int a0), none, none] [] := by
  unfold f_X9_bits at hf
  refine j_iconst (pc := 0) X dX9_bits_0 kc_0 ?_
  refine j_istore_n (pc := 1) X dX9_bits_1 (Nat.le_of_ble_eq_true rfl) (lv' := [some (.int a0), some (.int 0), none]) rfl ?_
  refine j_iconst (pc := 2) X dX9_bits_2 kc_0 ?_
  refine j_istore_n (pc := 3) X dX9_bits_3 (Nat.le_of_ble_eq_true rfl) (lv' := [some (.int a0), some (.int 0), some (.int 0)]) rfl ?_
  obtain ⟨k24_1, ek24_1, hf⟩ := jn_s hf
  have hk24_1 : ∀ (x1 : Int32), k24_1 x1 = some r → J g kWe 3 kC0 24 [some (.int a0), some (.int x1), none] [] := by
    intro x1 hf
    have hf := jE1 ek24_1 hf
    refine j_iload_n (pc := 24) X dX9_bits_24 rfl ?_
    exact j_retI hR dX9_bits_25 hf
  exact lt_X9_bits_4 X hR N a0  k24_1 hk24_1 N _ _ hf
theorem c_X9_bits {l : Launch} {D : va_G} {cI cS : ClassId}  (N : Nat) (a0 : Int32) {r : Int32} (hf : f_X9_bits N a0 = some r) : mP l yX9_bits wsX9_bits rm_X9_bits D cI cS [.int a0] r :=
  mP.of (by decide) rfl rfl (Nat.le_of_ble_eq_true rfl) (fun g X hR => t_X9_bits X  hR N a0  hf)
abbrev rm_X9_clearText : Room := { frames := 0, cells := 0, slots := 0, locals := 0 }
theorem lk_X9_clearText_0 : Cond.fieldLink RX9 48 "BlackBarsModel" "typed" "I" ∈ wsX9_clearText := List.mem_of_getElem? (i := 1) rfl
theorem iw_X9_clearText_X9 : ∀ w ∈ wsX90, w ∈ wsX9_clearText := fun _ h => List.mem_cons_of_mem _ (List.mem_append_right _ h)
def f_X9_clearText (N : Nat) (C : kS) : Option (Int32 × kS) := jn (up1 C 0 (upd (C 0) 4 0)) (fun C1 : kS => some (C 0 4, C1))
theorem hd_X9_clearText : kHd yX9_clearText 0 := by decide +kernel
set_option maxHeartbeats 4000000 in
set_option maxRecDepth 100000 in
theorem t_X9_clearText {g : kG} {cI cS : ClassId} {am : Nat → Nat} (X : Kx g cI cS cX9_clearText RX9 wsX9_clearText 2 rm_X9_clearText) {r : Int32} {Cr : kS} (hI : kInj 11 am) (Y : Kw g (WM cI am) (kAd 11 am)) (hR : kRI g (WM cI am) 2 cX9_clearText .int Cr r) (N : Nat) (C : kS)   (hf : f_X9_clearText N C = some (r, Cr)) : J g (WM cI am) 2 C 0 [some (.ref (am 0)), none] [] := by
  unfold f_X9_clearText at hf
  refine j_aload_n (pc := 0) X dX9_clearText_0 rfl ?_
  refine j_get (pc := 1) X iw_X9_clearText_X9 wm0 rfl 4 (Nat.le_of_ble_eq_true rfl) lk_X9_clearText_0 (v := .int (C 0 4)) rfl dX9_clearText_1 ?_
  refine j_istore_n (pc := 4) X dX9_clearText_4 (Nat.le_of_ble_eq_true rfl) (lv' := [some (.ref (am 0)), some (.int (C 0 4))]) rfl ?_
  refine j_aload_n (pc := 5) X dX9_clearText_5 rfl ?_
  refine j_iconst (pc := 6) X dX9_clearText_6 kc_0 ?_
  obtain ⟨C1, eC1, hf⟩ := jn_s hf
  refine j_put (C' := C1) (pc := 7) X Y iw_X9_clearText_X9 tyX9 tyX9_ok nmX9 wm0 rfl 4 (Nat.le_of_ble_eq_true rfl) lk_X9_clearText_0 rfl (tyX9_ok 4 (Nat.le_of_ble_eq_true rfl)) (Nat.le_of_ble_eq_true rfl) dX9_clearText_7 (by rw [eC1]; exact sm0_4 _) ?_
  refine j_iload_n (pc := 10) X dX9_clearText_10 rfl ?_
  exact j_retW hR dX9_clearText_11 hf
theorem c_X9_clearText {l : Launch} {D : va_G} {cI cS : ClassId} {am : Nat → Nat} (hI : kInj 11 am) (N : Nat) (C : kS)  {r : Int32} {Cr : kS} (hf : f_X9_clearText N C = some (r, Cr)) : mW l yX9_clearText wsX9_clearText rm_X9_clearText D cI cS (WM cI am) (kAd 11 am) C [.ref (am 0)] r Cr :=
  mW.of (by decide) rfl rfl (Nat.le_of_ble_eq_true rfl) (WM_D hI) (fun g X Y hR => t_X9_clearText X hI Y hR N C   hf)
abbrev rm_X9_lettersOf : Room := { frames := 2, cells := 0, slots := 0, locals := 41 }
theorem lk_X9_lettersOf_0 : Cond.fieldLink RX9 7 "BlackBarsModel" "s" "[I" ∈ wsX9_lettersOf := List.mem_of_getElem? (i := 1) rfl
theorem iw_X9_lettersOf_X9 : ∀ w ∈ wsX90, w ∈ wsX9_lettersOf := fun _ h => List.mem_cons_of_mem _ (List.mem_append_right _ h)
def f_X9_lettersOf (N : Nat) (C : kS) (a1 : Int32) : Option (Int32) := (f_X9_each N C).bind (fun r2 => gNz r2 (jn (fun (t4 : Int32) => (f_X9_each N C).bind (fun r7 => gNz r7 (gIn (554 + (9 * (a1 / r7))) 642 (some ((C 1 (554 + (9 * (a1 / r7))).toNatClampNeg) + t4))))) (fun j23_4 => if (a1 - a1 / r2 * r2) = 0 then j23_4 0 else (f_X9_endingAt N C a1).bind (fun r12 => gIn r12 642 (j23_4 (C 1 r12.toNatClampNeg))))))
theorem hd_X9_lettersOf : kHd yX9_lettersOf 1 := by decide +kernel
set_option maxHeartbeats 4000000 in
set_option maxRecDepth 100000 in
theorem t_X9_lettersOf {g : kG} {cI cS : ClassId} {am : Nat → Nat} {C : kS} (X : Kx g cI cS cX9_lettersOf RX9 wsX9_lettersOf 3 rm_X9_lettersOf) {r : Int32} (hR : kRI g (WM cI am) 3 cX9_lettersOf .int C r) (N : Nat) (a1 : Int32)  (hf : f_X9_lettersOf N C a1 = some r) : J g (WM cI am) 3 C 0 [some (.ref (am 0)), some (.int a1), none] [] := by
  unfold f_X9_lettersOf at hf
  refine j_iload_n (pc := 0) X dX9_lettersOf_0 rfl ?_
  refine j_aload_n (pc := 1) X dX9_lettersOf_1 rfl ?_
  obtain ⟨r2, h1, hf⟩ := kB hf
  refine j_callI (pc := 2) X (c_X9_each N C  h1) gX9_lettersOf_X9_each rfl ⟨rfl, rfl⟩ rfl hd_X9_each ⟨(Nat.le_of_ble_eq_true rfl), (Nat.le_of_ble_eq_true rfl)⟩ wm0 rfl rfl rfl (Nat.le_of_ble_eq_true rfl) rfl dX9_lettersOf_2 ?_
  obtain ⟨z3, hf⟩ := gNz_s hf
  refine j_irem (pc := 5) X dX9_lettersOf_5 z3 ?_
  obtain ⟨j23_4, ej23_4, hf⟩ := jn_s hf
  have hj23_4 : ∀ (t4 : Int32), j23_4 t4 = some r → J g (WM cI am) 3 C 23 [some (.ref (am 0)), some (.int a1), none] [.int t4] := by
    intro t4 hf
    have hf := jE1 ej23_4 hf
    refine j_istore_n (pc := 23) X dX9_lettersOf_23 (Nat.le_of_ble_eq_true rfl) (lv' := [some (.ref (am 0)), some (.int a1), some (.int t4)]) rfl ?_
    refine j_aload_n (pc := 24) X dX9_lettersOf_24 rfl ?_
    refine j_get (pc := 25) X iw_X9_lettersOf_X9 wm0 rfl 0 (Nat.le_of_ble_eq_true rfl) lk_X9_lettersOf_0 (v := .ref (am 1)) rfl dX9_lettersOf_25 ?_
    refine j_sipush (pc := 28) X dX9_lettersOf_28 ks_554 ?_
    refine j_bipush (pc := 31) X dX9_lettersOf_31 kb_9 ?_
    refine j_iload_n (pc := 33) X dX9_lettersOf_33 rfl ?_
    refine j_aload_n (pc := 34) X dX9_lettersOf_34 rfl ?_
    obtain ⟨r7, h6, hf⟩ := kB hf
    refine j_callI (pc := 35) X (c_X9_each N C  h6) gX9_lettersOf_X9_each rfl ⟨rfl, rfl⟩ rfl hd_X9_each ⟨(Nat.le_of_ble_eq_true rfl), (Nat.le_of_ble_eq_true rfl)⟩ wm0 rfl rfl rfl (Nat.le_of_ble_eq_true rfl) rfl dX9_lettersOf_35 ?_
    obtain ⟨z8, hf⟩ := gNz_s hf
    refine j_idiv (pc := 38) X dX9_lettersOf_38 z8 ?_
    refine j_imul (pc := 39) X dX9_lettersOf_39 ?_
    refine j_iadd (pc := 40) X dX9_lettersOf_40 ?_
    obtain ⟨b9, hf⟩ := gIn_s hf
    refine j_iald (pc := 41) X wm1 b9 dX9_lettersOf_41 ?_
    refine j_iload_n (pc := 42) X dX9_lettersOf_42 rfl ?_
    refine j_iadd (pc := 43) X dX9_lettersOf_43 ?_
    exact j_retI hR dX9_lettersOf_44 hf
  refine j_if_ne (tgt := 13) (pc := 6) X dX9_lettersOf_6 rfl (fun c10 => ?_) (fun c10 => ?_)
  · have hf := kF c10 hf
    refine j_aload_n (pc := 13) X dX9_lettersOf_13 rfl ?_
    refine j_get (pc := 14) X iw_X9_lettersOf_X9 wm0 rfl 0 (Nat.le_of_ble_eq_true rfl) lk_X9_lettersOf_0 (v := .ref (am 1)) rfl dX9_lettersOf_14 ?_
    refine j_aload_n (pc := 17) X dX9_lettersOf_17 rfl ?_
    refine j_iload_n (pc := 18) X dX9_lettersOf_18 rfl ?_
    obtain ⟨r12, h11, hf⟩ := kB hf
    refine j_callI (pc := 19) X (c_X9_endingAt N C a1 h11) gX9_lettersOf_X9_endingAt rfl ⟨rfl, rfl⟩ rfl hd_X9_endingAt ⟨(Nat.le_of_ble_eq_true rfl), (Nat.le_of_ble_eq_true rfl)⟩ wm0 rfl rfl rfl (Nat.le_of_ble_eq_true rfl) rfl dX9_lettersOf_19 ?_
    obtain ⟨b13, hf⟩ := gIn_s hf
    refine j_iald (pc := 22) X wm1 b13 dX9_lettersOf_22 ?_
    exact hj23_4 _ hf
  · have hf := kT c10 hf
    refine j_iconst (pc := 9) X dX9_lettersOf_9 kc_0 ?_
    refine j_goto (tgt := 23) (pc := 10) X dX9_lettersOf_10 rfl ?_
    exact hj23_4 _ hf
theorem c_X9_lettersOf {l : Launch} {D : va_G} {cI cS : ClassId} {am : Nat → Nat} (N : Nat) (C : kS) (a1 : Int32) {r : Int32} (hf : f_X9_lettersOf N C a1 = some r) : mI l yX9_lettersOf wsX9_lettersOf rm_X9_lettersOf D cI cS (WM cI am) C [.ref (am 0), .int a1] r :=
  mI.of (by decide) rfl rfl (Nat.le_of_ble_eq_true rfl) (fun g X hR => t_X9_lettersOf X  hR N a1  hf)
abbrev rm_X9_letterOf : Room := { frames := 2, cells := 0, slots := 0, locals := 41 }
theorem lk_X9_letterOf_0 : Cond.fieldLink RX9 7 "BlackBarsModel" "s" "[I" ∈ wsX9_letterOf := List.mem_of_getElem? (i := 1) rfl
theorem iw_X9_letterOf_X9 : ∀ w ∈ wsX90, w ∈ wsX9_letterOf := fun _ h => List.mem_cons_of_mem _ (List.mem_append_right _ h)
def f_X9_letterOf (N : Nat) (C : kS) (a1 : Int32) (a2 : Int32) : Option (Int32) := (f_X9_each N C).bind (fun r2 => gNz r2 (gIn (554 + (9 * (a1 / r2))) 642 (jn (fun (t5 : Int32) => some t5) (fun j58_5 => if (C 1 (554 + (9 * (a1 / r2))).toNatClampNeg) ≤ a2 then (f_X9_endingAt N C a1).bind (fun r9 => gIn (554 + (9 * (a1 / r2))) 642 (gIn (((r9 + 1) + a2) - (C 1 (554 + (9 * (a1 / r2))).toNatClampNeg)) 642 (j58_5 (C 1 (((r9 + 1) + a2) - (C 1 (554 + (9 * (a1 / r2))).toNatClampNeg)).toNatClampNeg)))) else gIn (((554 + (9 * (a1 / r2))) + 1) + a2) 642 (j58_5 (C 1 (((554 + (9 * (a1 / r2))) + 1) + a2).toNatClampNeg))))))
theorem hd_X9_letterOf : kHd yX9_letterOf 2 := by decide +kernel
set_option maxHeartbeats 4000000 in
set_option maxRecDepth 100000 in
theorem t_X9_letterOf {g : kG} {cI cS : ClassId} {am : Nat → Nat} {C : kS} (X : Kx g cI cS cX9_letterOf RX9 wsX9_letterOf 4 rm_X9_letterOf) {r : Int32} (hR : kRI g (WM cI am) 4 cX9_letterOf .int C r) (N : Nat) (a1 : Int32) (a2 : Int32)  (hf : f_X9_letterOf N C a1 a2 = some r) : J g (WM cI am) 4 C 0 [some (.ref (am 0)), some (.int a1), some (.int a2), none] [] := by
  unfold f_X9_letterOf at hf
  refine j_sipush (pc := 0) X dX9_letterOf_0 ks_554 ?_
  refine j_bipush (pc := 3) X dX9_letterOf_3 kb_9 ?_
  refine j_iload_n (pc := 5) X dX9_letterOf_5 rfl ?_
  refine j_aload_n (pc := 6) X dX9_letterOf_6 rfl ?_
  obtain ⟨r2, h1, hf⟩ := kB hf
  refine j_callI (pc := 7) X (c_X9_each N C  h1) gX9_letterOf_X9_each rfl ⟨rfl, rfl⟩ rfl hd_X9_each ⟨(Nat.le_of_ble_eq_true rfl), (Nat.le_of_ble_eq_true rfl)⟩ wm0 rfl rfl rfl (Nat.le_of_ble_eq_true rfl) rfl dX9_letterOf_7 ?_
  obtain ⟨z3, hf⟩ := gNz_s hf
  refine j_idiv (pc := 10) X dX9_letterOf_10 z3 ?_
  refine j_imul (pc := 11) X dX9_letterOf_11 ?_
  refine j_iadd (pc := 12) X dX9_letterOf_12 ?_
  refine j_istore_n (pc := 13) X dX9_letterOf_13 (Nat.le_of_ble_eq_true rfl) (lv' := [some (.ref (am 0)), some (.int a1), some (.int a2), some (.int (554 + (9 * (a1 / r2))))]) rfl ?_
  refine j_iload_n (pc := 14) X dX9_letterOf_14 rfl ?_
  refine j_aload_n (pc := 15) X dX9_letterOf_15 rfl ?_
  refine j_get (pc := 16) X iw_X9_letterOf_X9 wm0 rfl 0 (Nat.le_of_ble_eq_true rfl) lk_X9_letterOf_0 (v := .ref (am 1)) rfl dX9_letterOf_16 ?_
  refine j_iload_n (pc := 19) X dX9_letterOf_19 rfl ?_
  obtain ⟨b4, hf⟩ := gIn_s hf
  refine j_iald (pc := 20) X wm1 b4 dX9_letterOf_20 ?_
  obtain ⟨j58_5, ej58_5, hf⟩ := jn_s hf
  have hj58_5 : ∀ (t5 : Int32), j58_5 t5 = some r → J g (WM cI am) 4 C 58 [some (.ref (am 0)), some (.int a1), some (.int a2), some (.int (554 + (9 * (a1 / r2))))] [.int t5] := by
    intro t5 hf
    have hf := jE1 ej58_5 hf
    exact j_retI hR dX9_letterOf_58 hf
  refine j_icmp_ge (tgt := 37) (pc := 21) X dX9_letterOf_21 rfl (fun c7 => ?_) (fun c7 => ?_)
  · have hf := kT c7 hf
    refine j_aload_n (pc := 37) X dX9_letterOf_37 rfl ?_
    refine j_get (pc := 38) X iw_X9_letterOf_X9 wm0 rfl 0 (Nat.le_of_ble_eq_true rfl) lk_X9_letterOf_0 (v := .ref (am 1)) rfl dX9_letterOf_38 ?_
    refine j_aload_n (pc := 41) X dX9_letterOf_41 rfl ?_
    refine j_iload_n (pc := 42) X dX9_letterOf_42 rfl ?_
    obtain ⟨r9, h8, hf⟩ := kB hf
    refine j_callI (pc := 43) X (c_X9_endingAt N C a1 h8) gX9_letterOf_X9_endingAt rfl ⟨rfl, rfl⟩ rfl hd_X9_endingAt ⟨(Nat.le_of_ble_eq_true rfl), (Nat.le_of_ble_eq_true rfl)⟩ wm0 rfl rfl rfl (Nat.le_of_ble_eq_true rfl) rfl dX9_letterOf_43 ?_
    refine j_iconst (pc := 46) X dX9_letterOf_46 kc_1 ?_
    refine j_iadd (pc := 47) X dX9_letterOf_47 ?_
    refine j_iload_n (pc := 48) X dX9_letterOf_48 rfl ?_
    refine j_iadd (pc := 49) X dX9_letterOf_49 ?_
    refine j_aload_n (pc := 50) X dX9_letterOf_50 rfl ?_
    refine j_get (pc := 51) X iw_X9_letterOf_X9 wm0 rfl 0 (Nat.le_of_ble_eq_true rfl) lk_X9_letterOf_0 (v := .ref (am 1)) rfl dX9_letterOf_51 ?_
    refine j_iload_n (pc := 54) X dX9_letterOf_54 rfl ?_
    obtain ⟨b10, hf⟩ := gIn_s hf
    refine j_iald (pc := 55) X wm1 b10 dX9_letterOf_55 ?_
    refine j_isub (pc := 56) X dX9_letterOf_56 ?_
    obtain ⟨b11, hf⟩ := gIn_s hf
    refine j_iald (pc := 57) X wm1 b11 dX9_letterOf_57 ?_
    exact hj58_5 _ hf
  · have hf := kF c7 hf
    refine j_aload_n (pc := 24) X dX9_letterOf_24 rfl ?_
    refine j_get (pc := 25) X iw_X9_letterOf_X9 wm0 rfl 0 (Nat.le_of_ble_eq_true rfl) lk_X9_letterOf_0 (v := .ref (am 1)) rfl dX9_letterOf_25 ?_
    refine j_iload_n (pc := 28) X dX9_letterOf_28 rfl ?_
    refine j_iconst (pc := 29) X dX9_letterOf_29 kc_1 ?_
    refine j_iadd (pc := 30) X dX9_letterOf_30 ?_
    refine j_iload_n (pc := 31) X dX9_letterOf_31 rfl ?_
    refine j_iadd (pc := 32) X dX9_letterOf_32 ?_
    obtain ⟨b12, hf⟩ := gIn_s hf
    refine j_iald (pc := 33) X wm1 b12 dX9_letterOf_33 ?_
    refine j_goto (tgt := 58) (pc := 34) X dX9_letterOf_34 rfl ?_
    exact hj58_5 _ hf
theorem c_X9_letterOf {l : Launch} {D : va_G} {cI cS : ClassId} {am : Nat → Nat} (N : Nat) (C : kS) (a1 : Int32) (a2 : Int32) {r : Int32} (hf : f_X9_letterOf N C a1 a2 = some r) : mI l yX9_letterOf wsX9_letterOf rm_X9_letterOf D cI cS (WM cI am) C [.ref (am 0), .int a1, .int a2] r :=
  mI.of (by decide) rfl rfl (Nat.le_of_ble_eq_true rfl) (fun g X hR => t_X9_letterOf X  hR N a1 a2  hf)
