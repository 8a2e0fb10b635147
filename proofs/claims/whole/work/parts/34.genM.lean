abbrev rm_X9_guessOf : Room := { frames := 2, cells := 0, slots := 0, locals := 45 }
theorem lk_X9_guessOf_0 : Cond.fieldLink RX9 7 "BlackBarsModel" "s" "[I" ∈ wsX9_guessOf := List.mem_of_getElem? (i := 1) rfl
theorem iw_X9_guessOf_X9 : ∀ w ∈ wsX90, w ∈ wsX9_guessOf := fun _ h => List.mem_cons_of_mem _ (List.mem_append_right _ h)
def lp_X9_guessOf_29 (N : Nat) (C : kS) (a1 : Int32) (x2 : Int32) (r6 : Int32) (k93_7 : Int32 → Option (Int32)) : Nat → Int32 → Int32 → Option (Int32)
  | 0, _, _ => none
  | n + 1, x15, x16 => gIn 1 642 (if (C 1 (1 : Int32).toNatClampNeg) ≤ x16 then k93_7 x15 else (f_X9_gapOf N C x16 a1).bind (fun r20 => jn (fun (t21 : Int32) => lp_X9_guessOf_29 N C a1 x2 r6 k93_7 n (x15 + t21) (x16 + 1)) (fun j84_21 => jn (j84_21 0) (fun j83_22 => if r20 = (-14) then j83_22 else jn (j84_21 1) (fun j79_24 => if r20 < r6 then j79_24 else if r20 = r6 then if x2 ≤ x16 then j83_22 else j79_24 else j83_22)))))
def lp_X9_guessOf_3 (N : Nat) (C : kS) (a1 : Int32) (a2 : Int32) (a3 : Int32) (k124_0 : Option (Int32)) : Nat → Int32 → Option (Int32)
  | 0, _ => none
  | n + 1, x2 => gIn 1 642 (if (C 1 (1 : Int32).toNatClampNeg) ≤ x2 then k124_0 else (f_X9_gapOf N C x2 a1).bind (fun r6 => jn (fun (x7 : Int32) => jn (lp_X9_guessOf_3 N C a1 a2 a3 k124_0 n (x2 + 1)) (fun j118_8 => if r6 = (-14) then j118_8 else if x7 = a2 then jn (fun (t12 : Int32) => some t12) (fun j117_12 => if a3 = 0 then j117_12 x2 else j117_12 r6) else j118_8)) (fun k93_7 => lp_X9_guessOf_29 N C a1 x2 r6 k93_7 N 0 0)))
def f_X9_guessOf (N : Nat) (C : kS) (a1 : Int32) (a2 : Int32) (a3 : Int32) : Option (Int32) := jn (some (-14)) (fun k124_0 => lp_X9_guessOf_3 N C a1 a2 a3 k124_0 N 0)
theorem hd_X9_guessOf : kHd yX9_guessOf 3 := by decide +kernel
set_option maxHeartbeats 4000000 in
set_option maxRecDepth 100000 in
theorem lt_X9_guessOf_29 {g : kG} {cI cS : ClassId} {am : Nat → Nat} {C : kS} (X : Kx g cI cS cX9_guessOf RX9 wsX9_guessOf 9 rm_X9_guessOf) {r : Int32} (hR : kRI g (WM cI am) 9 cX9_guessOf .int C r) (N : Nat) (a1 : Int32) (a2 : Int32) (a3 : Int32) (x2 : Int32) (r6 : Int32)  (k93_7 : Int32 → Option (Int32)) (hk93_7 : ∀ (x7 : Int32), k93_7 x7 = some r → J g (WM cI am) 9 C 93 [some (.ref (am 0)), some (.int a1), some (.int a2), some (.int a3), some (.int x2), some (.int r6), some (.int x7), none, none] []) : ∀ (n : Nat) (x15 : Int32) (x16 : Int32), lp_X9_guessOf_29 N C a1 x2 r6 k93_7 n x15 x16 = some r → J g (WM cI am) 9 C 29 [some (.ref (am 0)), some (.int a1), some (.int a2), some (.int a3), some (.int x2), some (.int r6), some (.int x15), some (.int x16), none] [] := by
  intro n
  induction n with
  | zero =>
    intro x15 x16 hf
    rw [lp_X9_guessOf_29] at hf
    cases hf
  | succ n ih =>
    intro x15 x16 hf
    rw [lp_X9_guessOf_29] at hf
    refine j_iload (pc := 29) X dX9_guessOf_29 rfl ?_
    refine j_aload_n (pc := 31) X dX9_guessOf_31 rfl ?_
    refine j_get (pc := 32) X iw_X9_guessOf_X9 wm0 rfl 0 (Nat.le_of_ble_eq_true rfl) lk_X9_guessOf_0 (v := .ref (am 1)) rfl dX9_guessOf_32 ?_
    refine j_iconst (pc := 35) X dX9_guessOf_35 kc_1 ?_
    obtain ⟨b17, hf⟩ := gIn_s hf
    refine j_iald (pc := 36) X wm1 b17 dX9_guessOf_36 ?_
    refine j_icmp_ge (tgt := 93) (pc := 37) X dX9_guessOf_37 rfl (fun c18 => ?_) (fun c18 => ?_)
    · have hf := kT c18 hf
      refine j_weak (lv' := [some (.ref (am 0)), some (.int a1), some (.int a2), some (.int a3), some (.int x2), some (.int r6), some (.int x15), none, none]) (And.intro rfl (And.intro rfl (And.intro rfl (And.intro rfl (And.intro rfl (And.intro rfl (And.intro rfl trivial))))))) ?_
      exact hk93_7 _ hf
    · have hf := kF c18 hf
      refine j_aload_n (pc := 40) X dX9_guessOf_40 rfl ?_
      refine j_iload (pc := 41) X dX9_guessOf_41 rfl ?_
      refine j_iload_n (pc := 43) X dX9_guessOf_43 rfl ?_
      obtain ⟨r20, h19, hf⟩ := kB hf
      refine j_callI (pc := 44) X (c_X9_gapOf N C x16 a1 h19) gX9_guessOf_X9_gapOf rfl ⟨rfl, rfl⟩ rfl hd_X9_gapOf ⟨(Nat.le_of_ble_eq_true rfl), (Nat.le_of_ble_eq_true rfl)⟩ wm0 rfl rfl rfl (Nat.le_of_ble_eq_true rfl) rfl dX9_guessOf_44 ?_
      refine j_istore (pc := 47) X dX9_guessOf_47 (Nat.le_of_ble_eq_true rfl) (lv' := [some (.ref (am 0)), some (.int a1), some (.int a2), some (.int a3), some (.int x2), some (.int r6), some (.int x15), some (.int x16), some (.int r20)]) rfl ?_
      refine j_iload (pc := 49) X dX9_guessOf_49 rfl ?_
      refine j_iload (pc := 51) X dX9_guessOf_51 rfl ?_
      refine j_bipush (pc := 53) X dX9_guessOf_53 kb_m14 ?_
      obtain ⟨j84_21, ej84_21, hf⟩ := jn_s hf
      have hj84_21 : ∀ (t21 : Int32), j84_21 t21 = some r → J g (WM cI am) 9 C 84 [some (.ref (am 0)), some (.int a1), some (.int a2), some (.int a3), some (.int x2), some (.int r6), some (.int x15), some (.int x16), some (.int r20)] [.int t21, .int x15] := by
        intro t21 hf
        have hf := jE1 ej84_21 hf
        refine j_iadd (pc := 84) X dX9_guessOf_84 ?_
        refine j_istore (pc := 85) X dX9_guessOf_85 (Nat.le_of_ble_eq_true rfl) (lv' := [some (.ref (am 0)), some (.int a1), some (.int a2), some (.int a3), some (.int x2), some (.int r6), some (.int (x15 + t21)), some (.int x16), some (.int r20)]) rfl ?_
        refine j_iinc (pc := 87) X dX9_guessOf_87 rfl (v := x16 + 1) (by rw [kc_1]) (Nat.le_of_ble_eq_true rfl) (lv' := [some (.ref (am 0)), some (.int a1), some (.int a2), some (.int a3), some (.int x2), some (.int r6), some (.int (x15 + t21)), some (.int (x16 + 1)), some (.int r20)]) rfl ?_
        refine j_goto (tgt := 29) (pc := 90) X dX9_guessOf_90 rfl ?_
        refine j_weak (lv' := [some (.ref (am 0)), some (.int a1), some (.int a2), some (.int a3), some (.int x2), some (.int r6), some (.int (x15 + t21)), some (.int (x16 + 1)), none]) (And.intro rfl (And.intro rfl (And.intro rfl (And.intro rfl (And.intro rfl (And.intro rfl (And.intro rfl (And.intro rfl trivial)))))))) ?_
        exact ih _ _ hf
      obtain ⟨j83_22, ej83_22, hf⟩ := jn_s hf
      have hj83_22 : ∀ (_ : Unit), j83_22 = some r → J g (WM cI am) 9 C 83 [some (.ref (am 0)), some (.int a1), some (.int a2), some (.int a3), some (.int x2), some (.int r6), some (.int x15), some (.int x16), some (.int r20)] [.int x15] := by
        intro _ hf
        have hf := jE0 ej83_22 hf
        refine j_iconst (pc := 83) X dX9_guessOf_83 kc_0 ?_
        exact hj84_21 _ hf
      refine j_icmp_eq (tgt := 83) (pc := 55) X dX9_guessOf_55 rfl (fun c24 => ?_) (fun c24 => ?_)
      · have hf := kT c24 hf
        exact hj83_22 () hf
      · have hf := kF c24 hf
        refine j_iload (pc := 58) X dX9_guessOf_58 rfl ?_
        refine j_iload (pc := 60) X dX9_guessOf_60 rfl ?_
        obtain ⟨j79_24, ej79_24, hf⟩ := jn_s hf
        have hj79_24 : ∀ (_ : Unit), j79_24 = some r → J g (WM cI am) 9 C 79 [some (.ref (am 0)), some (.int a1), some (.int a2), some (.int a3), some (.int x2), some (.int r6), some (.int x15), some (.int x16), some (.int r20)] [.int x15] := by
          intro _ hf
          have hf := jE0 ej79_24 hf
          refine j_iconst (pc := 79) X dX9_guessOf_79 kc_1 ?_
          refine j_goto (tgt := 84) (pc := 80) X dX9_guessOf_80 rfl ?_
          exact hj84_21 _ hf
        refine j_icmp_lt (tgt := 79) (pc := 62) X dX9_guessOf_62 rfl (fun c26 => ?_) (fun c26 => ?_)
        · have hf := kT c26 hf
          exact hj79_24 () hf
        · have hf := kF c26 hf
          refine j_iload (pc := 65) X dX9_guessOf_65 rfl ?_
          refine j_iload (pc := 67) X dX9_guessOf_67 rfl ?_
          refine j_icmp_ne (tgt := 83) (pc := 69) X dX9_guessOf_69 rfl (fun c27 => ?_) (fun c27 => ?_)
          · have hf := kF c27 hf
            exact hj83_22 () hf
          · have hf := kT c27 hf
            refine j_iload (pc := 72) X dX9_guessOf_72 rfl ?_
            refine j_iload (pc := 74) X dX9_guessOf_74 rfl ?_
            refine j_icmp_ge (tgt := 83) (pc := 76) X dX9_guessOf_76 rfl (fun c28 => ?_) (fun c28 => ?_)
            · have hf := kT c28 hf
              exact hj83_22 () hf
            · have hf := kF c28 hf
              exact hj79_24 () hf
set_option maxHeartbeats 4000000 in
set_option maxRecDepth 100000 in
theorem lt_X9_guessOf_3 {g : kG} {cI cS : ClassId} {am : Nat → Nat} {C : kS} (X : Kx g cI cS cX9_guessOf RX9 wsX9_guessOf 9 rm_X9_guessOf) {r : Int32} (hR : kRI g (WM cI am) 9 cX9_guessOf .int C r) (N : Nat) (a1 : Int32) (a2 : Int32) (a3 : Int32)  (k124_0 : Option (Int32)) (hk124_0 : ∀ (_ : Unit), k124_0 = some r → J g (WM cI am) 9 C 124 [some (.ref (am 0)), some (.int a1), some (.int a2), some (.int a3), none, none, none, none, none] []) : ∀ (n : Nat) (x2 : Int32), lp_X9_guessOf_3 N C a1 a2 a3 k124_0 n x2 = some r → J g (WM cI am) 9 C 3 [some (.ref (am 0)), some (.int a1), some (.int a2), some (.int a3), some (.int x2), none, none, none, none] [] := by
  intro n
  induction n with
  | zero =>
    intro x2 hf
    rw [lp_X9_guessOf_3] at hf
    cases hf
  | succ n ih =>
    intro x2 hf
    rw [lp_X9_guessOf_3] at hf
    refine j_iload (pc := 3) X dX9_guessOf_3 rfl ?_
    refine j_aload_n (pc := 5) X dX9_guessOf_5 rfl ?_
    refine j_get (pc := 6) X iw_X9_guessOf_X9 wm0 rfl 0 (Nat.le_of_ble_eq_true rfl) lk_X9_guessOf_0 (v := .ref (am 1)) rfl dX9_guessOf_6 ?_
    refine j_iconst (pc := 9) X dX9_guessOf_9 kc_1 ?_
    obtain ⟨b3, hf⟩ := gIn_s hf
    refine j_iald (pc := 10) X wm1 b3 dX9_guessOf_10 ?_
    refine j_icmp_ge (tgt := 124) (pc := 11) X dX9_guessOf_11 rfl (fun c4 => ?_) (fun c4 => ?_)
    · have hf := kT c4 hf
      refine j_weak (lv' := [some (.ref (am 0)), some (.int a1), some (.int a2), some (.int a3), none, none, none, none, none]) (And.intro rfl (And.intro rfl (And.intro rfl (And.intro rfl trivial)))) ?_
      exact hk124_0 () hf
    · have hf := kF c4 hf
      refine j_aload_n (pc := 14) X dX9_guessOf_14 rfl ?_
      refine j_iload (pc := 15) X dX9_guessOf_15 rfl ?_
      refine j_iload_n (pc := 17) X dX9_guessOf_17 rfl ?_
      obtain ⟨r6, h5, hf⟩ := kB hf
      refine j_callI (pc := 18) X (c_X9_gapOf N C x2 a1 h5) gX9_guessOf_X9_gapOf rfl ⟨rfl, rfl⟩ rfl hd_X9_gapOf ⟨(Nat.le_of_ble_eq_true rfl), (Nat.le_of_ble_eq_true rfl)⟩ wm0 rfl rfl rfl (Nat.le_of_ble_eq_true rfl) rfl dX9_guessOf_18 ?_
      refine j_istore (pc := 21) X dX9_guessOf_21 (Nat.le_of_ble_eq_true rfl) (lv' := [some (.ref (am 0)), some (.int a1), some (.int a2), some (.int a3), some (.int x2), some (.int r6), none, none, none]) rfl ?_
      refine j_iconst (pc := 23) X dX9_guessOf_23 kc_0 ?_
      refine j_istore (pc := 24) X dX9_guessOf_24 (Nat.le_of_ble_eq_true rfl) (lv' := [some (.ref (am 0)), some (.int a1), some (.int a2), some (.int a3), some (.int x2), some (.int r6), some (.int 0), none, none]) rfl ?_
      refine j_iconst (pc := 26) X dX9_guessOf_26 kc_0 ?_
      refine j_istore (pc := 27) X dX9_guessOf_27 (Nat.le_of_ble_eq_true rfl) (lv' := [some (.ref (am 0)), some (.int a1), some (.int a2), some (.int a3), some (.int x2), some (.int r6), some (.int 0), some (.int 0), none]) rfl ?_
      obtain ⟨k93_7, ek93_7, hf⟩ := jn_s hf
      have hk93_7 : ∀ (x7 : Int32), k93_7 x7 = some r → J g (WM cI am) 9 C 93 [some (.ref (am 0)), some (.int a1), some (.int a2), some (.int a3), some (.int x2), some (.int r6), some (.int x7), none, none] [] := by
        intro x7 hf
        have hf := jE1 ek93_7 hf
        refine j_iload (pc := 93) X dX9_guessOf_93 rfl ?_
        refine j_bipush (pc := 95) X dX9_guessOf_95 kb_m14 ?_
        obtain ⟨j118_8, ej118_8, hf⟩ := jn_s hf
        have hj118_8 : ∀ (_ : Unit), j118_8 = some r → J g (WM cI am) 9 C 118 [some (.ref (am 0)), some (.int a1), some (.int a2), some (.int a3), some (.int x2), some (.int r6), some (.int x7), none, none] [] := by
          intro _ hf
          have hf := jE0 ej118_8 hf
          refine j_iinc (pc := 118) X dX9_guessOf_118 rfl (v := x2 + 1) (by rw [kc_1]) (Nat.le_of_ble_eq_true rfl) (lv' := [some (.ref (am 0)), some (.int a1), some (.int a2), some (.int a3), some (.int (x2 + 1)), some (.int r6), some (.int x7), none, none]) rfl ?_
          refine j_goto (tgt := 3) (pc := 121) X dX9_guessOf_121 rfl ?_
          refine j_weak (lv' := [some (.ref (am 0)), some (.int a1), some (.int a2), some (.int a3), some (.int (x2 + 1)), none, none, none, none]) (And.intro rfl (And.intro rfl (And.intro rfl (And.intro rfl (And.intro rfl trivial))))) ?_
          exact ih _ hf
        refine j_icmp_eq (tgt := 118) (pc := 97) X dX9_guessOf_97 rfl (fun c10 => ?_) (fun c10 => ?_)
        · have hf := kT c10 hf
          exact hj118_8 () hf
        · have hf := kF c10 hf
          refine j_iload (pc := 100) X dX9_guessOf_100 rfl ?_
          refine j_iload_n (pc := 102) X dX9_guessOf_102 rfl ?_
          refine j_icmp_ne (tgt := 118) (pc := 103) X dX9_guessOf_103 rfl (fun c11 => ?_) (fun c11 => ?_)
          · have hf := kF c11 hf
            exact hj118_8 () hf
          · have hf := kT c11 hf
            refine j_iload_n (pc := 106) X dX9_guessOf_106 rfl ?_
            obtain ⟨j117_12, ej117_12, hf⟩ := jn_s hf
            have hj117_12 : ∀ (t12 : Int32), j117_12 t12 = some r → J g (WM cI am) 9 C 117 [some (.ref (am 0)), some (.int a1), some (.int a2), some (.int a3), some (.int x2), some (.int r6), some (.int x7), none, none] [.int t12] := by
              intro t12 hf
              have hf := jE1 ej117_12 hf
              exact j_retI hR dX9_guessOf_117 hf
            refine j_if_ne (tgt := 115) (pc := 107) X dX9_guessOf_107 rfl (fun c14 => ?_) (fun c14 => ?_)
            · have hf := kF c14 hf
              refine j_iload (pc := 115) X dX9_guessOf_115 rfl ?_
              exact hj117_12 _ hf
            · have hf := kT c14 hf
              refine j_iload (pc := 110) X dX9_guessOf_110 rfl ?_
              refine j_goto (tgt := 117) (pc := 112) X dX9_guessOf_112 rfl ?_
              exact hj117_12 _ hf
      exact lt_X9_guessOf_29 X hR N a1 a2 a3 x2 r6       k93_7 hk93_7 N _ _ hf
set_option maxHeartbeats 4000000 in
set_option maxRecDepth 100000 in
theorem t_X9_guessOf {g : kG} {cI cS : ClassId} {am : Nat → Nat} {C : kS} (X : Kx g cI cS cX9_guessOf RX9 wsX9_guessOf 9 rm_X9_guessOf) {r : Int32} (hR : kRI g (WM cI am) 9 cX9_guessOf .int C r) (N : Nat) (a1 : Int32) (a2 : Int32) (a3 : Int32)  (hf : f_X9_guessOf N C a1 a2 a3 = some r) : J g (WM cI am) 9 C 0 [some (.ref (am 0)), some (.int a1), some (.int a2), some (.int a3), none, none, none, none, none] [] := by
  unfold f_X9_guessOf at hf
  refine j_iconst (pc := 0) X dX9_guessOf_0 kc_0 ?_
  refine j_istore (pc := 1) X dX9_guessOf_1 (Nat.le_of_ble_eq_true rfl) (lv' := [some (.ref (am 0)), some (.int a1), some (.int a2), some (.int a3), some (.int 0), none, none, none, none]) rfl ?_
  obtain ⟨k124_0, ek124_0, hf⟩ := jn_s hf
  have hk124_0 : ∀ (_ : Unit), k124_0 = some r → J g (WM cI am) 9 C 124 [some (.ref (am 0)), some (.int a1), some (.int a2), some (.int a3), none, none, none, none, none] [] := by
    intro _ hf
    have hf := jE0 ek124_0 hf
    refine j_bipush (pc := 124) X dX9_guessOf_124 kb_m14 ?_
    exact j_retI hR dX9_guessOf_126 hf
  exact lt_X9_guessOf_3 X hR N a1 a2 a3     k124_0 hk124_0 N _ hf
theorem c_X9_guessOf {l : Launch} {D : va_G} {cI cS : ClassId} {am : Nat → Nat} (N : Nat) (C : kS) (a1 : Int32) (a2 : Int32) (a3 : Int32) {r : Int32} (hf : f_X9_guessOf N C a1 a2 a3 = some r) : mI l yX9_guessOf wsX9_guessOf rm_X9_guessOf D cI cS (WM cI am) C [.ref (am 0), .int a1, .int a2, .int a3] r :=
  mI.of (by decide) rfl rfl (Nat.le_of_ble_eq_true rfl) (fun g X hR => t_X9_guessOf X  hR N a1 a2 a3  hf)
abbrev rm_X9_guess : Room := { frames := 6, cells := 0, slots := 0, locals := 134 }
theorem lk_X9_guess_0 : Cond.fieldLink RX9 28 "BlackBarsModel" "formOf" "[I" ∈ wsX9_guess := List.mem_of_getElem? (i := 1) rfl
theorem iw_X9_guess_X9 : ∀ w ∈ wsX90, w ∈ wsX9_guess := fun _ h => List.mem_cons_of_mem _ (List.mem_append_right _ h)
theorem lk_X9_guess_1 : Cond.fieldLink RX9 31 "BlackBarsModel" "shown" "[I" ∈ wsX9_guess := List.mem_of_getElem? (i := 2) rfl
def f_X9_guess (N : Nat) (C : kS) (a1 : Int32) (a2 : Int32) (a3 : Int32) : Option (Int32 × kS) := (f_X9_isWord N C a1).bind (fun r2 => if r2 = 0 then some ((-11), C) else if a2 < 0 then some ((-11), C) else (f_X9_in N a3 0 1).bind (fun r6 => if r6 = 0 then some ((-11), C) else (f_X9_laysNow N C).bind (fun C9 => gIn a1 40 (jn (fun (t11 : Int32) => some (t11, C9)) (fun j54_11 => if 0 ≤ (C9 7 a1.toNatClampNeg) then gIn a1 40 ((f_X9_guessOf N C9 (C9 8 a1.toNatClampNeg) a2 a3).bind (fun r16 => j54_11 r16)) else j54_11 (-12))))))
theorem hd_X9_guess : kHd yX9_guess 3 := by decide +kernel
set_option maxHeartbeats 4000000 in
set_option maxRecDepth 100000 in
theorem t_X9_guess {g : kG} {cI cS : ClassId} {am : Nat → Nat} (X : Kx g cI cS cX9_guess RX9 wsX9_guess 4 rm_X9_guess) {r : Int32} {Cr : kS} (hI : kInj 11 am) (Y : Kw g (WM cI am) (kAd 11 am)) (hR : kRI g (WM cI am) 4 cX9_guess .int Cr r) (N : Nat) (C : kS) (a1 : Int32) (a2 : Int32) (a3 : Int32)  (hf : f_X9_guess N C a1 a2 a3 = some (r, Cr)) : J g (WM cI am) 4 C 0 [some (.ref (am 0)), some (.int a1), some (.int a2), some (.int a3)] [] := by
  unfold f_X9_guess at hf
  refine j_aload_n (pc := 0) X dX9_guess_0 rfl ?_
  refine j_iload_n (pc := 1) X dX9_guess_1 rfl ?_
  obtain ⟨r2, h1, hf⟩ := kB hf
  refine j_callI (pc := 2) X (c_X9_isWord N C a1 h1) gX9_guess_X9_isWord rfl ⟨rfl, rfl⟩ rfl hd_X9_isWord ⟨(Nat.le_of_ble_eq_true rfl), (Nat.le_of_ble_eq_true rfl)⟩ wm0 rfl rfl rfl (Nat.le_of_ble_eq_true rfl) rfl dX9_guess_2 ?_
  refine j_if_eq (tgt := 21) (pc := 5) X dX9_guess_5 rfl (fun c3 => ?_) (fun c3 => ?_)
  · have hf := kT c3 hf
    refine j_bipush (pc := 21) X dX9_guess_21 kb_m11 ?_
    exact j_retW hR dX9_guess_23 hf
  · have hf := kF c3 hf
    refine j_iload_n (pc := 8) X dX9_guess_8 rfl ?_
    refine j_if_lt (tgt := 21) (pc := 9) X dX9_guess_9 rfl (fun c4 => ?_) (fun c4 => ?_)
    · have hf := kT c4 hf
      refine j_bipush (pc := 21) X dX9_guess_21 kb_m11 ?_
      exact j_retW hR dX9_guess_23 hf
    · have hf := kF c4 hf
      refine j_iload_n (pc := 12) X dX9_guess_12 rfl ?_
      refine j_iconst (pc := 13) X dX9_guess_13 kc_0 ?_
      refine j_iconst (pc := 14) X dX9_guess_14 kc_1 ?_
      obtain ⟨r6, h5, hf⟩ := kB hf
      refine j_callP (pc := 15) X (c_X9_in N a3 0 1 h5) gX9_guess_X9_in rfl ⟨rfl, rfl⟩ hd_X9_in ⟨(Nat.le_of_ble_eq_true rfl), (Nat.le_of_ble_eq_true rfl)⟩ rfl (Nat.le_of_ble_eq_true rfl) rfl dX9_guess_15 ?_
      refine j_if_ne (tgt := 24) (pc := 18) X dX9_guess_18 rfl (fun c7 => ?_) (fun c7 => ?_)
      · have hf := kF c7 hf
        refine j_aload_n (pc := 24) X dX9_guess_24 rfl ?_
        obtain ⟨C9, h8, hf⟩ := kB hf
        refine j_callV (pc := 25) X Y (c_X9_laysNow hI N C  h8) gX9_guess_X9_laysNow rfl ⟨rfl, rfl⟩ rfl hd_X9_laysNow ⟨(Nat.le_of_ble_eq_true rfl), (Nat.le_of_ble_eq_true rfl)⟩ wm0 rfl rfl rfl (Nat.le_of_ble_eq_true rfl) rfl dX9_guess_25 ?_
        refine j_aload_n (pc := 28) X dX9_guess_28 rfl ?_
        refine j_get (pc := 29) X iw_X9_guess_X9 wm0 rfl 10 (Nat.le_of_ble_eq_true rfl) lk_X9_guess_0 (v := .ref (am 7)) rfl dX9_guess_29 ?_
        refine j_iload_n (pc := 32) X dX9_guess_32 rfl ?_
        obtain ⟨b10, hf⟩ := gIn_s hf
        refine j_iald (pc := 33) X wm7 b10 dX9_guess_33 ?_
        obtain ⟨j54_11, ej54_11, hf⟩ := jn_s hf
        have hj54_11 : ∀ (t11 : Int32), j54_11 t11 = some (r, Cr) → J g (WM cI am) 4 C9 54 [some (.ref (am 0)), some (.int a1), some (.int a2), some (.int a3)] [.int t11] := by
          intro t11 hf
          have hf := jE1 ej54_11 hf
          exact j_retW hR dX9_guess_54 hf
        refine j_if_ge (tgt := 42) (pc := 34) X dX9_guess_34 rfl (fun c13 => ?_) (fun c13 => ?_)
        · have hf := kT c13 hf
          refine j_aload_n (pc := 42) X dX9_guess_42 rfl ?_
          refine j_aload_n (pc := 43) X dX9_guess_43 rfl ?_
          refine j_get (pc := 44) X iw_X9_guess_X9 wm0 rfl 11 (Nat.le_of_ble_eq_true rfl) lk_X9_guess_1 (v := .ref (am 8)) rfl dX9_guess_44 ?_
          refine j_iload_n (pc := 47) X dX9_guess_47 rfl ?_
          obtain ⟨b14, hf⟩ := gIn_s hf
          refine j_iald (pc := 48) X wm8 b14 dX9_guess_48 ?_
          refine j_iload_n (pc := 49) X dX9_guess_49 rfl ?_
          refine j_iload_n (pc := 50) X dX9_guess_50 rfl ?_
          obtain ⟨r16, h15, hf⟩ := kB hf
          refine j_callI (pc := 51) X (c_X9_guessOf N C9 (C9 8 a1.toNatClampNeg) a2 a3 h15) gX9_guess_X9_guessOf rfl ⟨rfl, rfl⟩ rfl hd_X9_guessOf ⟨(Nat.le_of_ble_eq_true rfl), (Nat.le_of_ble_eq_true rfl)⟩ wm0 rfl rfl rfl (Nat.le_of_ble_eq_true rfl) rfl dX9_guess_51 ?_
          exact hj54_11 _ hf
        · have hf := kF c13 hf
          refine j_bipush (pc := 37) X dX9_guess_37 kb_m12 ?_
          refine j_goto (tgt := 54) (pc := 39) X dX9_guess_39 rfl ?_
          exact hj54_11 _ hf
      · have hf := kT c7 hf
        refine j_bipush (pc := 21) X dX9_guess_21 kb_m11 ?_
        exact j_retW hR dX9_guess_23 hf
theorem c_X9_guess {l : Launch} {D : va_G} {cI cS : ClassId} {am : Nat → Nat} (hI : kInj 11 am) (N : Nat) (C : kS) (a1 : Int32) (a2 : Int32) (a3 : Int32) {r : Int32} {Cr : kS} (hf : f_X9_guess N C a1 a2 a3 = some (r, Cr)) : mW l yX9_guess wsX9_guess rm_X9_guess D cI cS (WM cI am) (kAd 11 am) C [.ref (am 0), .int a1, .int a2, .int a3] r Cr :=
  mW.of (by decide) rfl rfl (Nat.le_of_ble_eq_true rfl) (WM_D hI) (fun g X Y hR => t_X9_guess X hI Y hR N C a1 a2 a3  hf)
abbrev rm_X9_hiddenOf : Room := { frames := 2, cells := 0, slots := 0, locals := 43 }
theorem lk_X9_hiddenOf_0 : Cond.fieldLink RX9 28 "BlackBarsModel" "formOf" "[I" ∈ wsX9_hiddenOf := List.mem_of_getElem? (i := 1) rfl
theorem iw_X9_hiddenOf_X9 : ∀ w ∈ wsX90, w ∈ wsX9_hiddenOf := fun _ h => List.mem_cons_of_mem _ (List.mem_append_right _ h)
theorem lk_X9_hiddenOf_1 : Cond.fieldLink RX9 31 "BlackBarsModel" "shown" "[I" ∈ wsX9_hiddenOf := List.mem_of_getElem? (i := 2) rfl
def f_X9_hiddenOf (N : Nat) (C : kS) (a1 : Int32) (a2 : Int32) : Option (Int32) := gIn a1 40 (if 0 ≤ (C 7 a1.toNatClampNeg) then gIn a1 40 ((f_X9_namesUnder N C (C 8 a1.toNatClampNeg)).bind (fun r5 => jn (fun (t6 : Int32) => some t6) (fun j77_6 => if a2 = 4 then gIn a1 40 ((f_X9_each N C).bind (fun r19 => gNz r19 (j77_6 ((C 7 a1.toNatClampNeg) / r19)))) else if a2 = 5 then gIn a1 40 ((f_X9_each N C).bind (fun r15 => gNz r15 (j77_6 (((C 7 a1.toNatClampNeg) - (C 7 a1.toNatClampNeg) / r15 * r15) - 1)))) else if a2 = 8 then j77_6 r5 else (f_X9_bits N r5).bind (fun r12 => j77_6 r12)))) else some (-14))
theorem hd_X9_hiddenOf : kHd yX9_hiddenOf 2 := by decide +kernel
set_option maxHeartbeats 4000000 in
set_option maxRecDepth 100000 in
theorem t_X9_hiddenOf {g : kG} {cI cS : ClassId} {am : Nat → Nat} {C : kS} (X : Kx g cI cS cX9_hiddenOf RX9 wsX9_hiddenOf 4 rm_X9_hiddenOf) {r : Int32} (hR : kRI g (WM cI am) 4 cX9_hiddenOf .int C r) (N : Nat) (a1 : Int32) (a2 : Int32)  (hf : f_X9_hiddenOf N C a1 a2 = some r) : J g (WM cI am) 4 C 0 [some (.ref (am 0)), some (.int a1), some (.int a2), none] [] := by
  unfold f_X9_hiddenOf at hf
  refine j_aload_n (pc := 0) X dX9_hiddenOf_0 rfl ?_
  refine j_get (pc := 1) X iw_X9_hiddenOf_X9 wm0 rfl 10 (Nat.le_of_ble_eq_true rfl) lk_X9_hiddenOf_0 (v := .ref (am 7)) rfl dX9_hiddenOf_1 ?_
  refine j_iload_n (pc := 4) X dX9_hiddenOf_4 rfl ?_
  obtain ⟨b1, hf⟩ := gIn_s hf
  refine j_iald (pc := 5) X wm7 b1 dX9_hiddenOf_5 ?_
  refine j_if_ge (tgt := 12) (pc := 6) X dX9_hiddenOf_6 rfl (fun c2 => ?_) (fun c2 => ?_)
  · have hf := kT c2 hf
    refine j_aload_n (pc := 12) X dX9_hiddenOf_12 rfl ?_
    refine j_aload_n (pc := 13) X dX9_hiddenOf_13 rfl ?_
    refine j_get (pc := 14) X iw_X9_hiddenOf_X9 wm0 rfl 11 (Nat.le_of_ble_eq_true rfl) lk_X9_hiddenOf_1 (v := .ref (am 8)) rfl dX9_hiddenOf_14 ?_
    refine j_iload_n (pc := 17) X dX9_hiddenOf_17 rfl ?_
    obtain ⟨b3, hf⟩ := gIn_s hf
    refine j_iald (pc := 18) X wm8 b3 dX9_hiddenOf_18 ?_
    obtain ⟨r5, h4, hf⟩ := kB hf
    refine j_callI (pc := 19) X (c_X9_namesUnder N C (C 8 a1.toNatClampNeg) h4) gX9_hiddenOf_X9_namesUnder rfl ⟨rfl, rfl⟩ rfl hd_X9_namesUnder ⟨(Nat.le_of_ble_eq_true rfl), (Nat.le_of_ble_eq_true rfl)⟩ wm0 rfl rfl rfl (Nat.le_of_ble_eq_true rfl) rfl dX9_hiddenOf_19 ?_
    refine j_istore_n (pc := 22) X dX9_hiddenOf_22 (Nat.le_of_ble_eq_true rfl) (lv' := [some (.ref (am 0)), some (.int a1), some (.int a2), some (.int r5)]) rfl ?_
    refine j_iload_n (pc := 23) X dX9_hiddenOf_23 rfl ?_
    refine j_iconst (pc := 24) X dX9_hiddenOf_24 kc_4 ?_
    obtain ⟨j77_6, ej77_6, hf⟩ := jn_s hf
    have hj77_6 : ∀ (t6 : Int32), j77_6 t6 = some r → J g (WM cI am) 4 C 77 [some (.ref (am 0)), some (.int a1), some (.int a2), some (.int r5)] [.int t6] := by
      intro t6 hf
      have hf := jE1 ej77_6 hf
      exact j_retI hR dX9_hiddenOf_77 hf
    refine j_icmp_ne (tgt := 42) (pc := 25) X dX9_hiddenOf_25 rfl (fun c8 => ?_) (fun c8 => ?_)
    · have hf := kF c8 hf
      refine j_iload_n (pc := 42) X dX9_hiddenOf_42 rfl ?_
      refine j_iconst (pc := 43) X dX9_hiddenOf_43 kc_5 ?_
      refine j_icmp_ne (tgt := 63) (pc := 44) X dX9_hiddenOf_44 rfl (fun c9 => ?_) (fun c9 => ?_)
      · have hf := kF c9 hf
        refine j_iload_n (pc := 63) X dX9_hiddenOf_63 rfl ?_
        refine j_bipush (pc := 64) X dX9_hiddenOf_64 kb_8 ?_
        refine j_icmp_ne (tgt := 73) (pc := 66) X dX9_hiddenOf_66 rfl (fun c10 => ?_) (fun c10 => ?_)
        · have hf := kF c10 hf
          refine j_iload_n (pc := 73) X dX9_hiddenOf_73 rfl ?_
          obtain ⟨r12, h11, hf⟩ := kB hf
          refine j_callP (pc := 74) X (c_X9_bits N r5 h11) gX9_hiddenOf_X9_bits rfl ⟨rfl, rfl⟩ hd_X9_bits ⟨(Nat.le_of_ble_eq_true rfl), (Nat.le_of_ble_eq_true rfl)⟩ rfl (Nat.le_of_ble_eq_true rfl) rfl dX9_hiddenOf_74 ?_
          exact hj77_6 _ hf
        · have hf := kT c10 hf
          refine j_iload_n (pc := 69) X dX9_hiddenOf_69 rfl ?_
          refine j_goto (tgt := 77) (pc := 70) X dX9_hiddenOf_70 rfl ?_
          exact hj77_6 _ hf
      · have hf := kT c9 hf
        refine j_aload_n (pc := 47) X dX9_hiddenOf_47 rfl ?_
        refine j_get (pc := 48) X iw_X9_hiddenOf_X9 wm0 rfl 10 (Nat.le_of_ble_eq_true rfl) lk_X9_hiddenOf_0 (v := .ref (am 7)) rfl dX9_hiddenOf_48 ?_
        refine j_iload_n (pc := 51) X dX9_hiddenOf_51 rfl ?_
        obtain ⟨b13, hf⟩ := gIn_s hf
        refine j_iald (pc := 52) X wm7 b13 dX9_hiddenOf_52 ?_
        refine j_aload_n (pc := 53) X dX9_hiddenOf_53 rfl ?_
        obtain ⟨r15, h14, hf⟩ := kB hf
        refine j_callI (pc := 54) X (c_X9_each N C  h14) gX9_hiddenOf_X9_each rfl ⟨rfl, rfl⟩ rfl hd_X9_each ⟨(Nat.le_of_ble_eq_true rfl), (Nat.le_of_ble_eq_true rfl)⟩ wm0 rfl rfl rfl (Nat.le_of_ble_eq_true rfl) rfl dX9_hiddenOf_54 ?_
        obtain ⟨z16, hf⟩ := gNz_s hf
        refine j_irem (pc := 57) X dX9_hiddenOf_57 z16 ?_
        refine j_iconst (pc := 58) X dX9_hiddenOf_58 kc_1 ?_
        refine j_isub (pc := 59) X dX9_hiddenOf_59 ?_
        refine j_goto (tgt := 77) (pc := 60) X dX9_hiddenOf_60 rfl ?_
        exact hj77_6 _ hf
    · have hf := kT c8 hf
      refine j_aload_n (pc := 28) X dX9_hiddenOf_28 rfl ?_
      refine j_get (pc := 29) X iw_X9_hiddenOf_X9 wm0 rfl 10 (Nat.le_of_ble_eq_true rfl) lk_X9_hiddenOf_0 (v := .ref (am 7)) rfl dX9_hiddenOf_29 ?_
      refine j_iload_n (pc := 32) X dX9_hiddenOf_32 rfl ?_
      obtain ⟨b17, hf⟩ := gIn_s hf
      refine j_iald (pc := 33) X wm7 b17 dX9_hiddenOf_33 ?_
      refine j_aload_n (pc := 34) X dX9_hiddenOf_34 rfl ?_
      obtain ⟨r19, h18, hf⟩ := kB hf
      refine j_callI (pc := 35) X (c_X9_each N C  h18) gX9_hiddenOf_X9_each rfl ⟨rfl, rfl⟩ rfl hd_X9_each ⟨(Nat.le_of_ble_eq_true rfl), (Nat.le_of_ble_eq_true rfl)⟩ wm0 rfl rfl rfl (Nat.le_of_ble_eq_true rfl) rfl dX9_hiddenOf_35 ?_
      obtain ⟨z20, hf⟩ := gNz_s hf
      refine j_idiv (pc := 38) X dX9_hiddenOf_38 z20 ?_
      refine j_goto (tgt := 77) (pc := 39) X dX9_hiddenOf_39 rfl ?_
      exact hj77_6 _ hf
  · have hf := kF c2 hf
    refine j_bipush (pc := 9) X dX9_hiddenOf_9 kb_m14 ?_
    exact j_retI hR dX9_hiddenOf_11 hf
theorem c_X9_hiddenOf {l : Launch} {D : va_G} {cI cS : ClassId} {am : Nat → Nat} (N : Nat) (C : kS) (a1 : Int32) (a2 : Int32) {r : Int32} (hf : f_X9_hiddenOf N C a1 a2 = some r) : mI l yX9_hiddenOf wsX9_hiddenOf rm_X9_hiddenOf D cI cS (WM cI am) C [.ref (am 0), .int a1, .int a2] r :=
  mI.of (by decide) rfl rfl (Nat.le_of_ble_eq_true rfl) (fun g X hR => t_X9_hiddenOf X  hR N a1 a2  hf)
abbrev rm_X9_isSetting : Room := { frames := 1, cells := 0, slots := 0, locals := 22 }
def f_X9_isSetting (N : Nat) (a0 : Int32) (a1 : Int32) : Option (Int32) := if a0 = 0 then (f_X9_in N a1 0 3).bind (fun r3 => some (r3 &&& 1)) else if a0 = 1 then (f_X9_in N a1 1 50).bind (fun r6 => some (r6 &&& 1)) else if a0 = 2 then (f_X9_in N a1 1 8).bind (fun r9 => some (r9 &&& 1)) else if a0 = 3 then (f_X9_in N a1 1 9).bind (fun r12 => some (r12 &&& 1)) else if a0 = 4 then (f_X9_in N a1 20 200).bind (fun r15 => some (r15 &&& 1)) else some ((0 : Int32) &&& 1)
theorem hd_X9_isSetting : kHd yX9_isSetting 2 := by decide +kernel
set_option maxHeartbeats 4000000 in
set_option maxRecDepth 100000 in
theorem t_X9_isSetting {g : kG} {cI cS : ClassId} (X : Kx g cI cS cX9_isSetting RX9 wsX9_isSetting 2 rm_X9_isSetting) {r : Int32} (hR : kRI g kWe 2 cX9_isSetting .boolean kC0 r) (N : Nat) (a0 : Int32) (a1 : Int32)  (hf : f_X9_isSetting N a0 a1 = some r) : J g kWe 2 kC0 0 [some (.int a0), some (.int a1)] [] := by
  unfold f_X9_isSetting at hf
  refine j_iload_n (pc := 0) X dX9_isSetting_0 rfl ?_
  rcases Decidable.em (a0 = 0) with c1 | c1
  · have hf := kT c1 hf
    refine j_tabIn (v := 0) (off := 35) (tgt := 36) (pc := 1) X dX9_isSetting_1 c1 (by decide) (by decide) (by decide) rfl ?_
    refine j_iload_n (pc := 36) X dX9_isSetting_36 rfl ?_
    refine j_iconst (pc := 37) X dX9_isSetting_37 kc_0 ?_
    refine j_iconst (pc := 38) X dX9_isSetting_38 kc_3 ?_
    obtain ⟨r3, h2, hf⟩ := kB hf
    refine j_callP (pc := 39) X (c_X9_in N a1 0 3 h2) gX9_isSetting_X9_in rfl ⟨rfl, rfl⟩ hd_X9_in ⟨(Nat.le_of_ble_eq_true rfl), (Nat.le_of_ble_eq_true rfl)⟩ rfl (Nat.le_of_ble_eq_true rfl) rfl dX9_isSetting_39 ?_
    exact j_retB hR dX9_isSetting_42 hf
  · have hf := kF c1 hf
    rcases Decidable.em (a0 = 1) with c4 | c4
    · have hf := kT c4 hf
      refine j_tabIn (v := 1) (off := 42) (tgt := 43) (pc := 1) X dX9_isSetting_1 c4 (by decide) (by decide) (by decide) rfl ?_
      refine j_iload_n (pc := 43) X dX9_isSetting_43 rfl ?_
      refine j_iconst (pc := 44) X dX9_isSetting_44 kc_1 ?_
      refine j_bipush (pc := 45) X dX9_isSetting_45 kb_50 ?_
      obtain ⟨r6, h5, hf⟩ := kB hf
      refine j_callP (pc := 47) X (c_X9_in N a1 1 50 h5) gX9_isSetting_X9_in rfl ⟨rfl, rfl⟩ hd_X9_in ⟨(Nat.le_of_ble_eq_true rfl), (Nat.le_of_ble_eq_true rfl)⟩ rfl (Nat.le_of_ble_eq_true rfl) rfl dX9_isSetting_47 ?_
      exact j_retB hR dX9_isSetting_50 hf
    · have hf := kF c4 hf
      rcases Decidable.em (a0 = 2) with c7 | c7
      · have hf := kT c7 hf
        refine j_tabIn (v := 2) (off := 50) (tgt := 51) (pc := 1) X dX9_isSetting_1 c7 (by decide) (by decide) (by decide) rfl ?_
        refine j_iload_n (pc := 51) X dX9_isSetting_51 rfl ?_
        refine j_iconst (pc := 52) X dX9_isSetting_52 kc_1 ?_
        refine j_bipush (pc := 53) X dX9_isSetting_53 kb_8 ?_
        obtain ⟨r9, h8, hf⟩ := kB hf
        refine j_callP (pc := 55) X (c_X9_in N a1 1 8 h8) gX9_isSetting_X9_in rfl ⟨rfl, rfl⟩ hd_X9_in ⟨(Nat.le_of_ble_eq_true rfl), (Nat.le_of_ble_eq_true rfl)⟩ rfl (Nat.le_of_ble_eq_true rfl) rfl dX9_isSetting_55 ?_
        exact j_retB hR dX9_isSetting_58 hf
      · have hf := kF c7 hf
        rcases Decidable.em (a0 = 3) with c10 | c10
        · have hf := kT c10 hf
          refine j_tabIn (v := 3) (off := 58) (tgt := 59) (pc := 1) X dX9_isSetting_1 c10 (by decide) (by decide) (by decide) rfl ?_
          refine j_iload_n (pc := 59) X dX9_isSetting_59 rfl ?_
          refine j_iconst (pc := 60) X dX9_isSetting_60 kc_1 ?_
          refine j_bipush (pc := 61) X dX9_isSetting_61 kb_9 ?_
          obtain ⟨r12, h11, hf⟩ := kB hf
          refine j_callP (pc := 63) X (c_X9_in N a1 1 9 h11) gX9_isSetting_X9_in rfl ⟨rfl, rfl⟩ hd_X9_in ⟨(Nat.le_of_ble_eq_true rfl), (Nat.le_of_ble_eq_true rfl)⟩ rfl (Nat.le_of_ble_eq_true rfl) rfl dX9_isSetting_63 ?_
          exact j_retB hR dX9_isSetting_66 hf
        · have hf := kF c10 hf
          rcases Decidable.em (a0 = 4) with c13 | c13
          · have hf := kT c13 hf
            refine j_tabIn (v := 4) (off := 66) (tgt := 67) (pc := 1) X dX9_isSetting_1 c13 (by decide) (by decide) (by decide) rfl ?_
            refine j_iload_n (pc := 67) X dX9_isSetting_67 rfl ?_
            refine j_bipush (pc := 68) X dX9_isSetting_68 kb_20 ?_
            refine j_sipush (pc := 70) X dX9_isSetting_70 ks_200 ?_
            obtain ⟨r15, h14, hf⟩ := kB hf
            refine j_callP (pc := 73) X (c_X9_in N a1 20 200 h14) gX9_isSetting_X9_in rfl ⟨rfl, rfl⟩ hd_X9_in ⟨(Nat.le_of_ble_eq_true rfl), (Nat.le_of_ble_eq_true rfl)⟩ rfl (Nat.le_of_ble_eq_true rfl) rfl dX9_isSetting_73 ?_
            exact j_retB hR dX9_isSetting_76 hf
          · have hf := kF c13 hf
            refine j_tabOut (tgt := 77) (pc := 1) X dX9_isSetting_1 (by have gc1 := lv_neT (a := 0) c1 (by decide); have gc4 := lv_neT (a := 1) c4 (by decide); have gc7 := lv_neT (a := 2) c7 (by decide); have gc10 := lv_neT (a := 3) c10 (by decide); have gc13 := lv_neT (a := 4) c13 (by decide); omega) rfl ?_
            refine j_iconst (pc := 77) X dX9_isSetting_77 kc_0 ?_
            exact j_retB hR dX9_isSetting_78 hf
theorem c_X9_isSetting {l : Launch} {D : va_G} {cI cS : ClassId}  (N : Nat) (a0 : Int32) (a1 : Int32) {r : Int32} (hf : f_X9_isSetting N a0 a1 = some r) : mP l yX9_isSetting wsX9_isSetting rm_X9_isSetting D cI cS [.int a0, .int a1] r :=
  mP.of (by decide) rfl rfl (Nat.le_of_ble_eq_true rfl) (fun g X hR => t_X9_isSetting X  hR N a0 a1  hf)
abbrev rm_X9_letter : Room := { frames := 6, cells := 0, slots := 0, locals := 134 }
theorem lk_X9_letter_0 : Cond.fieldLink RX9 28 "BlackBarsModel" "formOf" "[I" ∈ wsX9_letter := List.mem_of_getElem? (i := 1) rfl
theorem iw_X9_letter_X9 : ∀ w ∈ wsX90, w ∈ wsX9_letter := fun _ h => List.mem_cons_of_mem _ (List.mem_append_right _ h)
theorem lk_X9_letter_1 : Cond.fieldLink RX9 7 "BlackBarsModel" "s" "[I" ∈ wsX9_letter := List.mem_of_getElem? (i := 2) rfl
def f_X9_letter (N : Nat) (C : kS) (a1 : Int32) (a2 : Int32) : Option (Int32 × kS) := (f_X9_isWord N C a1).bind (fun r2 => if r2 = 0 then some ((-11), C) else if 0 ≤ a2 then (f_X9_laysNow N C).bind (fun C6 => gIn a1 40 (if (C6 7 a1.toNatClampNeg) < 0 then gIn (34 + (13 * a1)) 642 (jn (fun (t10 : Int32) => some (t10, C6)) (fun j67_10 => if (C6 1 (34 + (13 * a1)).toNatClampNeg) ≤ a2 then j67_10 (-14) else gIn (((34 + (13 * a1)) + 1) + a2) 642 (j67_10 ((C6 1 (((34 + (13 * a1)) + 1) + a2).toNatClampNeg) + 97)))) else some ((-12), C6))) else some ((-11), C))
theorem hd_X9_letter : kHd yX9_letter 2 := by decide +kernel
set_option maxHeartbeats 4000000 in
set_option maxRecDepth 100000 in
theorem t_X9_letter {g : kG} {cI cS : ClassId} {am : Nat → Nat} (X : Kx g cI cS cX9_letter RX9 wsX9_letter 4 rm_X9_letter) {r : Int32} {Cr : kS} (hI : kInj 11 am) (Y : Kw g (WM cI am) (kAd 11 am)) (hR : kRI g (WM cI am) 4 cX9_letter .int Cr r) (N : Nat) (C : kS) (a1 : Int32) (a2 : Int32)  (hf : f_X9_letter N C a1 a2 = some (r, Cr)) : J g (WM cI am) 4 C 0 [some (.ref (am 0)), some (.int a1), some (.int a2), none] [] := by
  unfold f_X9_letter at hf
  refine j_aload_n (pc := 0) X dX9_letter_0 rfl ?_
  refine j_iload_n (pc := 1) X dX9_letter_1 rfl ?_
  obtain ⟨r2, h1, hf⟩ := kB hf
  refine j_callI (pc := 2) X (c_X9_isWord N C a1 h1) gX9_letter_X9_isWord rfl ⟨rfl, rfl⟩ rfl hd_X9_isWord ⟨(Nat.le_of_ble_eq_true rfl), (Nat.le_of_ble_eq_true rfl)⟩ wm0 rfl rfl rfl (Nat.le_of_ble_eq_true rfl) rfl dX9_letter_2 ?_
  refine j_if_eq (tgt := 12) (pc := 5) X dX9_letter_5 rfl (fun c3 => ?_) (fun c3 => ?_)
  · have hf := kT c3 hf
    refine j_bipush (pc := 12) X dX9_letter_12 kb_m11 ?_
    exact j_retW hR dX9_letter_14 hf
  · have hf := kF c3 hf
    refine j_iload_n (pc := 8) X dX9_letter_8 rfl ?_
    refine j_if_ge (tgt := 15) (pc := 9) X dX9_letter_9 rfl (fun c4 => ?_) (fun c4 => ?_)
    · have hf := kT c4 hf
      refine j_aload_n (pc := 15) X dX9_letter_15 rfl ?_
      obtain ⟨C6, h5, hf⟩ := kB hf
      refine j_callV (pc := 16) X Y (c_X9_laysNow hI N C  h5) gX9_letter_X9_laysNow rfl ⟨rfl, rfl⟩ rfl hd_X9_laysNow ⟨(Nat.le_of_ble_eq_true rfl), (Nat.le_of_ble_eq_true rfl)⟩ wm0 rfl rfl rfl (Nat.le_of_ble_eq_true rfl) rfl dX9_letter_16 ?_
      refine j_aload_n (pc := 19) X dX9_letter_19 rfl ?_
      refine j_get (pc := 20) X iw_X9_letter_X9 wm0 rfl 10 (Nat.le_of_ble_eq_true rfl) lk_X9_letter_0 (v := .ref (am 7)) rfl dX9_letter_20 ?_
      refine j_iload_n (pc := 23) X dX9_letter_23 rfl ?_
      obtain ⟨b7, hf⟩ := gIn_s hf
      refine j_iald (pc := 24) X wm7 b7 dX9_letter_24 ?_
      refine j_if_lt (tgt := 31) (pc := 25) X dX9_letter_25 rfl (fun c8 => ?_) (fun c8 => ?_)
      · have hf := kT c8 hf
        refine j_bipush (pc := 31) X dX9_letter_31 kb_34 ?_
        refine j_bipush (pc := 33) X dX9_letter_33 kb_13 ?_
        refine j_iload_n (pc := 35) X dX9_letter_35 rfl ?_
        refine j_imul (pc := 36) X dX9_letter_36 ?_
        refine j_iadd (pc := 37) X dX9_letter_37 ?_
        refine j_istore_n (pc := 38) X dX9_letter_38 (Nat.le_of_ble_eq_true rfl) (lv' := [some (.ref (am 0)), some (.int a1), some (.int a2), some (.int (34 + (13 * a1)))]) rfl ?_
        refine j_iload_n (pc := 39) X dX9_letter_39 rfl ?_
        refine j_aload_n (pc := 40) X dX9_letter_40 rfl ?_
        refine j_get (pc := 41) X iw_X9_letter_X9 wm0 rfl 0 (Nat.le_of_ble_eq_true rfl) lk_X9_letter_1 (v := .ref (am 1)) rfl dX9_letter_41 ?_
        refine j_iload_n (pc := 44) X dX9_letter_44 rfl ?_
        obtain ⟨b9, hf⟩ := gIn_s hf
        refine j_iald (pc := 45) X wm1 b9 dX9_letter_45 ?_
        obtain ⟨j67_10, ej67_10, hf⟩ := jn_s hf
        have hj67_10 : ∀ (t10 : Int32), j67_10 t10 = some (r, Cr) → J g (WM cI am) 4 C6 67 [some (.ref (am 0)), some (.int a1), some (.int a2), some (.int (34 + (13 * a1)))] [.int t10] := by
          intro t10 hf
          have hf := jE1 ej67_10 hf
          exact j_retW hR dX9_letter_67 hf
        refine j_icmp_ge (tgt := 65) (pc := 46) X dX9_letter_46 rfl (fun c12 => ?_) (fun c12 => ?_)
        · have hf := kT c12 hf
          refine j_bipush (pc := 65) X dX9_letter_65 kb_m14 ?_
          exact hj67_10 _ hf
        · have hf := kF c12 hf
          refine j_aload_n (pc := 49) X dX9_letter_49 rfl ?_
          refine j_get (pc := 50) X iw_X9_letter_X9 wm0 rfl 0 (Nat.le_of_ble_eq_true rfl) lk_X9_letter_1 (v := .ref (am 1)) rfl dX9_letter_50 ?_
          refine j_iload_n (pc := 53) X dX9_letter_53 rfl ?_
          refine j_iconst (pc := 54) X dX9_letter_54 kc_1 ?_
          refine j_iadd (pc := 55) X dX9_letter_55 ?_
          refine j_iload_n (pc := 56) X dX9_letter_56 rfl ?_
          refine j_iadd (pc := 57) X dX9_letter_57 ?_
          obtain ⟨b13, hf⟩ := gIn_s hf
          refine j_iald (pc := 58) X wm1 b13 dX9_letter_58 ?_
          refine j_bipush (pc := 59) X dX9_letter_59 kb_97 ?_
          refine j_iadd (pc := 61) X dX9_letter_61 ?_
          refine j_goto (tgt := 67) (pc := 62) X dX9_letter_62 rfl ?_
          exact hj67_10 _ hf
      · have hf := kF c8 hf
        refine j_bipush (pc := 28) X dX9_letter_28 kb_m12 ?_
        exact j_retW hR dX9_letter_30 hf
    · have hf := kF c4 hf
      refine j_bipush (pc := 12) X dX9_letter_12 kb_m11 ?_
      exact j_retW hR dX9_letter_14 hf
theorem c_X9_letter {l : Launch} {D : va_G} {cI cS : ClassId} {am : Nat → Nat} (hI : kInj 11 am) (N : Nat) (C : kS) (a1 : Int32) (a2 : Int32) {r : Int32} {Cr : kS} (hf : f_X9_letter N C a1 a2 = some (r, Cr)) : mW l yX9_letter wsX9_letter rm_X9_letter D cI cS (WM cI am) (kAd 11 am) C [.ref (am 0), .int a1, .int a2] r Cr :=
  mW.of (by decide) rfl rfl (Nat.le_of_ble_eq_true rfl) (WM_D hI) (fun g X Y hR => t_X9_letter X hI Y hR N C a1 a2  hf)
abbrev rm_X9_lineSum : Room := { frames := 0, cells := 0, slots := 0, locals := 0 }
theorem lk_X9_lineSum_0 : Cond.fieldLink RX9 7 "BlackBarsModel" "s" "[I" ∈ wsX9_lineSum := List.mem_of_getElem? (i := 1) rfl
theorem iw_X9_lineSum_X9 : ∀ w ∈ wsX90, w ∈ wsX9_lineSum := fun _ h => List.mem_cons_of_mem _ (List.mem_append_right _ h)
theorem lk_X9_lineSum_1 : Cond.fieldLink RX9 34 "BlackBarsModel" "lineOf" "[I" ∈ wsX9_lineSum := List.mem_of_getElem? (i := 2) rfl
theorem lk_X9_lineSum_3 : Cond.fieldLink RX9 28 "BlackBarsModel" "formOf" "[I" ∈ wsX9_lineSum := List.mem_of_getElem? (i := 4) rfl
theorem lk_X9_lineSum_2 : Cond.fieldLink RX9 31 "BlackBarsModel" "shown" "[I" ∈ wsX9_lineSum := List.mem_of_getElem? (i := 3) rfl
def lp_X9_lineSum_9 (N : Nat) (C : kS) (a1 : Int32) (a2 : Int32) (k112_2 : Int32 → Int32 → Option (Int32)) : Nat → Int32 → Int32 → Int32 → Option (Int32)
  | 0, _, _, _ => none
  | n + 1, x7, x8, x9 => gIn 0 642 (if (C 1 (0 : Int32).toNatClampNeg) ≤ x9 then k112_2 x7 x8 else gIn x9 40 (jn (fun (x13 : Int32) (x14 : Int32) => lp_X9_lineSum_9 N C a1 a2 k112_2 n x13 x14 (x9 + 1)) (fun j106_14 => if (C 9 x9.toNatClampNeg) = a1 then jn (fun (t17 : Int32) => jn (fun (t19 : Int32) => jn (fun (t21 : Int32) => j106_14 t19 (x8 + t21)) (fun j103_21 => if a2 = 2 then gIn x9 40 (j103_21 ((C 8 x9.toNatClampNeg) + t17)) else jn (j103_21 1) (fun j98_23 => if a2 = 1 then j98_23 else gIn x9 40 (if (C 7 x9.toNatClampNeg) < 0 then j103_21 0 else j98_23)))) (fun j62_19 => if x7 = (-14) then j62_19 x9 else j62_19 x7)) (fun j48_17 => if x7 = (-14) then j48_17 0 else gIn 6 642 (j48_17 (C 1 (6 : Int32).toNatClampNeg))) else j106_14 x7 x8)))
def f_X9_lineSum (N : Nat) (C : kS) (a1 : Int32) (a2 : Int32) : Option (Int32) := jn (fun (x1 : Int32) (x2 : Int32) => jn (fun (t4 : Int32) => some t4) (fun j122_4 => if a2 = 0 then j122_4 x1 else j122_4 x2)) (fun k112_2 => lp_X9_lineSum_9 N C a1 a2 k112_2 N (-14) 0 0)
theorem hd_X9_lineSum : kHd yX9_lineSum 2 := by decide +kernel
set_option maxHeartbeats 4000000 in
set_option maxRecDepth 100000 in
theorem lt_X9_lineSum_9 {g : kG} {cI cS : ClassId} {am : Nat → Nat} {C : kS} (X : Kx g cI cS cX9_lineSum RX9 wsX9_lineSum 7 rm_X9_lineSum) {r : Int32} (hR : kRI g (WM cI am) 7 cX9_lineSum .int C r) (N : Nat) (a1 : Int32) (a2 : Int32)  (k112_2 : Int32 → Int32 → Option (Int32)) (hk112_2 : ∀ (x1 : Int32) (x2 : Int32), k112_2 x1 x2 = some r → J g (WM cI am) 7 C 112 [some (.ref (am 0)), some (.int a1), some (.int a2), some (.int x1), some (.int x2), none, none] []) : ∀ (n : Nat) (x7 : Int32) (x8 : Int32) (x9 : Int32), lp_X9_lineSum_9 N C a1 a2 k112_2 n x7 x8 x9 = some r → J g (WM cI am) 7 C 9 [some (.ref (am 0)), some (.int a1), some (.int a2), some (.int x7), some (.int x8), some (.int x9), none] [] := by
  intro n
  induction n with
  | zero =>
    intro x7 x8 x9 hf
    rw [lp_X9_lineSum_9] at hf
    cases hf
  | succ n ih =>
    intro x7 x8 x9 hf
    rw [lp_X9_lineSum_9] at hf
    refine j_iload (pc := 9) X dX9_lineSum_9 rfl ?_
    refine j_aload_n (pc := 11) X dX9_lineSum_11 rfl ?_
    refine j_get (pc := 12) X iw_X9_lineSum_X9 wm0 rfl 0 (Nat.le_of_ble_eq_true rfl) lk_X9_lineSum_0 (v := .ref (am 1)) rfl dX9_lineSum_12 ?_
    refine j_iconst (pc := 15) X dX9_lineSum_15 kc_0 ?_
    obtain ⟨b10, hf⟩ := gIn_s hf
    refine j_iald (pc := 16) X wm1 b10 dX9_lineSum_16 ?_
    refine j_icmp_ge (tgt := 112) (pc := 17) X dX9_lineSum_17 rfl (fun c11 => ?_) (fun c11 => ?_)
    · have hf := kT c11 hf
      refine j_weak (lv' := [some (.ref (am 0)), some (.int a1), some (.int a2), some (.int x7), some (.int x8), none, none]) (And.intro rfl (And.intro rfl (And.intro rfl (And.intro rfl (And.intro rfl trivial))))) ?_
      exact hk112_2 _ _ hf
    · have hf := kF c11 hf
      refine j_aload_n (pc := 20) X dX9_lineSum_20 rfl ?_
      refine j_get (pc := 21) X iw_X9_lineSum_X9 wm0 rfl 12 (Nat.le_of_ble_eq_true rfl) lk_X9_lineSum_1 (v := .ref (am 9)) rfl dX9_lineSum_21 ?_
      refine j_iload (pc := 24) X dX9_lineSum_24 rfl ?_
      obtain ⟨b12, hf⟩ := gIn_s hf
      refine j_iald (pc := 26) X wm9 b12 dX9_lineSum_26 ?_
      refine j_iload_n (pc := 27) X dX9_lineSum_27 rfl ?_
      obtain ⟨j106_14, ej106_14, hf⟩ := jn_s hf
      have hj106_14 : ∀ (x13 : Int32) (x14 : Int32), j106_14 x13 x14 = some r → J g (WM cI am) 7 C 106 [some (.ref (am 0)), some (.int a1), some (.int a2), some (.int x13), some (.int x14), some (.int x9), none] [] := by
        intro x13 x14 hf
        have hf := jE2 ej106_14 hf
        refine j_iinc (pc := 106) X dX9_lineSum_106 rfl (v := x9 + 1) (by rw [kc_1]) (Nat.le_of_ble_eq_true rfl) (lv' := [some (.ref (am 0)), some (.int a1), some (.int a2), some (.int x13), some (.int x14), some (.int (x9 + 1)), none]) rfl ?_
        refine j_goto (tgt := 9) (pc := 109) X dX9_lineSum_109 rfl ?_
        exact ih _ _ _ hf
      refine j_icmp_ne (tgt := 106) (pc := 28) X dX9_lineSum_28 rfl (fun c16 => ?_) (fun c16 => ?_)
      · have hf := kF c16 hf
        exact hj106_14 _ _ hf
      · have hf := kT c16 hf
        refine j_iload_n (pc := 31) X dX9_lineSum_31 rfl ?_
        refine j_bipush (pc := 32) X dX9_lineSum_32 kb_m14 ?_
        obtain ⟨j48_17, ej48_17, hf⟩ := jn_s hf
        have hj48_17 : ∀ (t17 : Int32), j48_17 t17 = some r → J g (WM cI am) 7 C 48 [some (.ref (am 0)), some (.int a1), some (.int a2), some (.int x7), some (.int x8), some (.int x9), none] [.int t17] := by
          intro t17 hf
          have hf := jE1 ej48_17 hf
          refine j_istore (pc := 48) X dX9_lineSum_48 (Nat.le_of_ble_eq_true rfl) (lv' := [some (.ref (am 0)), some (.int a1), some (.int a2), some (.int x7), some (.int x8), some (.int x9), some (.int t17)]) rfl ?_
          refine j_iload_n (pc := 50) X dX9_lineSum_50 rfl ?_
          refine j_bipush (pc := 51) X dX9_lineSum_51 kb_m14 ?_
          obtain ⟨j62_19, ej62_19, hf⟩ := jn_s hf
          have hj62_19 : ∀ (t19 : Int32), j62_19 t19 = some r → J g (WM cI am) 7 C 62 [some (.ref (am 0)), some (.int a1), some (.int a2), some (.int x7), some (.int x8), some (.int x9), some (.int t17)] [.int t19] := by
            intro t19 hf
            have hf := jE1 ej62_19 hf
            refine j_istore_n (pc := 62) X dX9_lineSum_62 (Nat.le_of_ble_eq_true rfl) (lv' := [some (.ref (am 0)), some (.int a1), some (.int a2), some (.int t19), some (.int x8), some (.int x9), some (.int t17)]) rfl ?_
            refine j_iload (pc := 63) X dX9_lineSum_63 rfl ?_
            refine j_iload_n (pc := 65) X dX9_lineSum_65 rfl ?_
            refine j_iconst (pc := 66) X dX9_lineSum_66 kc_2 ?_
            obtain ⟨j103_21, ej103_21, hf⟩ := jn_s hf
            have hj103_21 : ∀ (t21 : Int32), j103_21 t21 = some r → J g (WM cI am) 7 C 103 [some (.ref (am 0)), some (.int a1), some (.int a2), some (.int t19), some (.int x8), some (.int x9), some (.int t17)] [.int t21, .int x8] := by
              intro t21 hf
              have hf := jE1 ej103_21 hf
              refine j_iadd (pc := 103) X dX9_lineSum_103 ?_
              refine j_istore (pc := 104) X dX9_lineSum_104 (Nat.le_of_ble_eq_true rfl) (lv' := [some (.ref (am 0)), some (.int a1), some (.int a2), some (.int t19), some (.int (x8 + t21)), some (.int x9), some (.int t17)]) rfl ?_
              refine j_weak (lv' := [some (.ref (am 0)), some (.int a1), some (.int a2), some (.int t19), some (.int (x8 + t21)), some (.int x9), none]) (And.intro rfl (And.intro rfl (And.intro rfl (And.intro rfl (And.intro rfl (And.intro rfl trivial)))))) ?_
              exact hj106_14 _ _ hf
            refine j_icmp_ne (tgt := 83) (pc := 67) X dX9_lineSum_67 rfl (fun c23 => ?_) (fun c23 => ?_)
            · have hf := kF c23 hf
              refine j_iload_n (pc := 83) X dX9_lineSum_83 rfl ?_
              refine j_iconst (pc := 84) X dX9_lineSum_84 kc_1 ?_
              obtain ⟨j98_23, ej98_23, hf⟩ := jn_s hf
              have hj98_23 : ∀ (_ : Unit), j98_23 = some r → J g (WM cI am) 7 C 98 [some (.ref (am 0)), some (.int a1), some (.int a2), some (.int t19), some (.int x8), some (.int x9), some (.int t17)] [.int x8] := by
                intro _ hf
                have hf := jE0 ej98_23 hf
                refine j_iconst (pc := 98) X dX9_lineSum_98 kc_1 ?_
                refine j_goto (tgt := 103) (pc := 99) X dX9_lineSum_99 rfl ?_
                exact hj103_21 _ hf
              refine j_icmp_eq (tgt := 98) (pc := 85) X dX9_lineSum_85 rfl (fun c25 => ?_) (fun c25 => ?_)
              · have hf := kT c25 hf
                exact hj98_23 () hf
              · have hf := kF c25 hf
                refine j_aload_n (pc := 88) X dX9_lineSum_88 rfl ?_
                refine j_get (pc := 89) X iw_X9_lineSum_X9 wm0 rfl 10 (Nat.le_of_ble_eq_true rfl) lk_X9_lineSum_3 (v := .ref (am 7)) rfl dX9_lineSum_89 ?_
                refine j_iload (pc := 92) X dX9_lineSum_92 rfl ?_
                obtain ⟨b26, hf⟩ := gIn_s hf
                refine j_iald (pc := 94) X wm7 b26 dX9_lineSum_94 ?_
                refine j_if_lt (tgt := 102) (pc := 95) X dX9_lineSum_95 rfl (fun c27 => ?_) (fun c27 => ?_)
                · have hf := kT c27 hf
                  refine j_iconst (pc := 102) X dX9_lineSum_102 kc_0 ?_
                  exact hj103_21 _ hf
                · have hf := kF c27 hf
                  exact hj98_23 () hf
            · have hf := kT c23 hf
              refine j_aload_n (pc := 70) X dX9_lineSum_70 rfl ?_
              refine j_get (pc := 71) X iw_X9_lineSum_X9 wm0 rfl 11 (Nat.le_of_ble_eq_true rfl) lk_X9_lineSum_2 (v := .ref (am 8)) rfl dX9_lineSum_71 ?_
              refine j_iload (pc := 74) X dX9_lineSum_74 rfl ?_
              obtain ⟨b28, hf⟩ := gIn_s hf
              refine j_iald (pc := 76) X wm8 b28 dX9_lineSum_76 ?_
              refine j_iload (pc := 77) X dX9_lineSum_77 rfl ?_
              refine j_iadd (pc := 79) X dX9_lineSum_79 ?_
              refine j_goto (tgt := 103) (pc := 80) X dX9_lineSum_80 rfl ?_
              exact hj103_21 _ hf
          refine j_icmp_ne (tgt := 61) (pc := 53) X dX9_lineSum_53 rfl (fun c29 => ?_) (fun c29 => ?_)
          · have hf := kF c29 hf
            refine j_iload_n (pc := 61) X dX9_lineSum_61 rfl ?_
            exact hj62_19 _ hf
          · have hf := kT c29 hf
            refine j_iload (pc := 56) X dX9_lineSum_56 rfl ?_
            refine j_goto (tgt := 62) (pc := 58) X dX9_lineSum_58 rfl ?_
            exact hj62_19 _ hf
        refine j_icmp_ne (tgt := 41) (pc := 34) X dX9_lineSum_34 rfl (fun c30 => ?_) (fun c30 => ?_)
        · have hf := kF c30 hf
          refine j_aload_n (pc := 41) X dX9_lineSum_41 rfl ?_
          refine j_get (pc := 42) X iw_X9_lineSum_X9 wm0 rfl 0 (Nat.le_of_ble_eq_true rfl) lk_X9_lineSum_0 (v := .ref (am 1)) rfl dX9_lineSum_42 ?_
          refine j_bipush (pc := 45) X dX9_lineSum_45 kb_6 ?_
          obtain ⟨b31, hf⟩ := gIn_s hf
          refine j_iald (pc := 47) X wm1 b31 dX9_lineSum_47 ?_
          exact hj48_17 _ hf
        · have hf := kT c30 hf
          refine j_iconst (pc := 37) X dX9_lineSum_37 kc_0 ?_
          refine j_goto (tgt := 48) (pc := 38) X dX9_lineSum_38 rfl ?_
          exact hj48_17 _ hf
set_option maxHeartbeats 4000000 in
set_option maxRecDepth 100000 in
theorem t_X9_lineSum {g : kG} {cI cS : ClassId} {am : Nat → Nat} {C : kS} (X : Kx g cI cS cX9_lineSum RX9 wsX9_lineSum 7 rm_X9_lineSum) {r : Int32} (hR : kRI g (WM cI am) 7 cX9_lineSum .int C r) (N : Nat) (a1 : Int32) (a2 : Int32)  (hf : f_X9_lineSum N C a1 a2 = some r) : J g (WM cI am) 7 C 0 [some (.ref (am 0)), some (.int a1), some (.int a2), none, none, none, none] [] := by
  unfold f_X9_lineSum at hf
  refine j_bipush (pc := 0) X dX9_lineSum_0 kb_m14 ?_
  refine j_istore_n (pc := 2) X dX9_lineSum_2 (Nat.le_of_ble_eq_true rfl) (lv' := [some (.ref (am 0)), some (.int a1), some (.int a2), some (.int (-14)), none, none, none]) rfl ?_
  refine j_iconst (pc := 3) X dX9_lineSum_3 kc_0 ?_
  refine j_istore (pc := 4) X dX9_lineSum_4 (Nat.le_of_ble_eq_true rfl) (lv' := [some (.ref (am 0)), some (.int a1), some (.int a2), some (.int (-14)), some (.int 0), none, none]) rfl ?_
  refine j_iconst (pc := 6) X dX9_lineSum_6 kc_0 ?_
  refine j_istore (pc := 7) X dX9_lineSum_7 (Nat.le_of_ble_eq_true rfl) (lv' := [some (.ref (am 0)), some (.int a1), some (.int a2), some (.int (-14)), some (.int 0), some (.int 0), none]) rfl ?_
  obtain ⟨k112_2, ek112_2, hf⟩ := jn_s hf
  have hk112_2 : ∀ (x1 : Int32) (x2 : Int32), k112_2 x1 x2 = some r → J g (WM cI am) 7 C 112 [some (.ref (am 0)), some (.int a1), some (.int a2), some (.int x1), some (.int x2), none, none] [] := by
    intro x1 x2 hf
    have hf := jE2 ek112_2 hf
    refine j_iload_n (pc := 112) X dX9_lineSum_112 rfl ?_
    obtain ⟨j122_4, ej122_4, hf⟩ := jn_s hf
    have hj122_4 : ∀ (t4 : Int32), j122_4 t4 = some r → J g (WM cI am) 7 C 122 [some (.ref (am 0)), some (.int a1), some (.int a2), some (.int x1), some (.int x2), none, none] [.int t4] := by
      intro t4 hf
      have hf := jE1 ej122_4 hf
      exact j_retI hR dX9_lineSum_122 hf
    refine j_if_ne (tgt := 120) (pc := 113) X dX9_lineSum_113 rfl (fun c6 => ?_) (fun c6 => ?_)
    · have hf := kF c6 hf
      refine j_iload (pc := 120) X dX9_lineSum_120 rfl ?_
      exact hj122_4 _ hf
    · have hf := kT c6 hf
      refine j_iload_n (pc := 116) X dX9_lineSum_116 rfl ?_
      refine j_goto (tgt := 122) (pc := 117) X dX9_lineSum_117 rfl ?_
      exact hj122_4 _ hf
  exact lt_X9_lineSum_9 X hR N a1 a2    k112_2 hk112_2 N _ _ _ hf
theorem c_X9_lineSum {l : Launch} {D : va_G} {cI cS : ClassId} {am : Nat → Nat} (N : Nat) (C : kS) (a1 : Int32) (a2 : Int32) {r : Int32} (hf : f_X9_lineSum N C a1 a2 = some r) : mI l yX9_lineSum wsX9_lineSum rm_X9_lineSum D cI cS (WM cI am) C [.ref (am 0), .int a1, .int a2] r :=
  mI.of (by decide) rfl rfl (Nat.le_of_ble_eq_true rfl) (fun g X hR => t_X9_lineSum X  hR N a1 a2  hf)
abbrev rm_X9_line : Room := { frames := 6, cells := 0, slots := 0, locals := 134 }
theorem lk_X9_line_0 : Cond.fieldLink RX9 116 "BlackBarsModel" "lines" "I" ∈ wsX9_line := List.mem_of_getElem? (i := 1) rfl
theorem iw_X9_line_X9 : ∀ w ∈ wsX90, w ∈ wsX9_line := fun _ h => List.mem_cons_of_mem _ (List.mem_append_right _ h)
theorem lk_X9_line_1 : Cond.fieldLink RX9 7 "BlackBarsModel" "s" "[I" ∈ wsX9_line := List.mem_of_getElem? (i := 2) rfl
def f_X9_line (N : Nat) (C : kS) (a1 : Int32) (a2 : Int32) : Option (Int32 × kS) := (f_X9_laysNow N C).bind (fun C2 => if a1 < 0 then some ((-11), C2) else if (C2 0 14) ≤ a1 then some ((-11), C2) else (f_X9_in N a2 0 4).bind (fun r6 => if r6 = 0 then some ((-11), C2) else if a2 = 3 then gIn 7 642 ((f_X9_lineSum N C2 a1 2).bind (fun r13 => jn (fun (t14 : Int32) => some (t14, C2)) (fun j57_14 => if 0 ≤ ((C2 1 (7 : Int32).toNatClampNeg) - r13) then j57_14 ((C2 1 (7 : Int32).toNatClampNeg) - r13) else j57_14 0))) else (f_X9_lineSum N C2 a1 a2).bind (fun r10 => some (r10, C2))))
theorem hd_X9_line : kHd yX9_line 2 := by decide +kernel
set_option maxHeartbeats 4000000 in
set_option maxRecDepth 100000 in
theorem t_X9_line {g : kG} {cI cS : ClassId} {am : Nat → Nat} (X : Kx g cI cS cX9_line RX9 wsX9_line 4 rm_X9_line) {r : Int32} {Cr : kS} (hI : kInj 11 am) (Y : Kw g (WM cI am) (kAd 11 am)) (hR : kRI g (WM cI am) 4 cX9_line .int Cr r) (N : Nat) (C : kS) (a1 : Int32) (a2 : Int32)  (hf : f_X9_line N C a1 a2 = some (r, Cr)) : J g (WM cI am) 4 C 0 [some (.ref (am 0)), some (.int a1), some (.int a2), none] [] := by
  unfold f_X9_line at hf
  refine j_aload_n (pc := 0) X dX9_line_0 rfl ?_
  obtain ⟨C2, h1, hf⟩ := kB hf
  refine j_callV (pc := 1) X Y (c_X9_laysNow hI N C  h1) gX9_line_X9_laysNow rfl ⟨rfl, rfl⟩ rfl hd_X9_laysNow ⟨(Nat.le_of_ble_eq_true rfl), (Nat.le_of_ble_eq_true rfl)⟩ wm0 rfl rfl rfl (Nat.le_of_ble_eq_true rfl) rfl dX9_line_1 ?_
  refine j_iload_n (pc := 4) X dX9_line_4 rfl ?_
  refine j_if_lt (tgt := 25) (pc := 5) X dX9_line_5 rfl (fun c3 => ?_) (fun c3 => ?_)
  · have hf := kT c3 hf
    refine j_bipush (pc := 25) X dX9_line_25 kb_m11 ?_
    exact j_retW hR dX9_line_27 hf
  · have hf := kF c3 hf
    refine j_iload_n (pc := 8) X dX9_line_8 rfl ?_
    refine j_aload_n (pc := 9) X dX9_line_9 rfl ?_
    refine j_get (pc := 10) X iw_X9_line_X9 wm0 rfl 14 (Nat.le_of_ble_eq_true rfl) lk_X9_line_0 (v := .int (C2 0 14)) rfl dX9_line_10 ?_
    refine j_icmp_ge (tgt := 25) (pc := 13) X dX9_line_13 rfl (fun c4 => ?_) (fun c4 => ?_)
    · have hf := kT c4 hf
      refine j_bipush (pc := 25) X dX9_line_25 kb_m11 ?_
      exact j_retW hR dX9_line_27 hf
    · have hf := kF c4 hf
      refine j_iload_n (pc := 16) X dX9_line_16 rfl ?_
      refine j_iconst (pc := 17) X dX9_line_17 kc_0 ?_
      refine j_iconst (pc := 18) X dX9_line_18 kc_4 ?_
      obtain ⟨r6, h5, hf⟩ := kB hf
      refine j_callP (pc := 19) X (c_X9_in N a2 0 4 h5) gX9_line_X9_in rfl ⟨rfl, rfl⟩ hd_X9_in ⟨(Nat.le_of_ble_eq_true rfl), (Nat.le_of_ble_eq_true rfl)⟩ rfl (Nat.le_of_ble_eq_true rfl) rfl dX9_line_19 ?_
      refine j_if_ne (tgt := 28) (pc := 22) X dX9_line_22 rfl (fun c7 => ?_) (fun c7 => ?_)
      · have hf := kF c7 hf
        refine j_iload_n (pc := 28) X dX9_line_28 rfl ?_
        refine j_iconst (pc := 29) X dX9_line_29 kc_3 ?_
        refine j_icmp_ne (tgt := 58) (pc := 30) X dX9_line_30 rfl (fun c8 => ?_) (fun c8 => ?_)
        · have hf := kF c8 hf
          refine j_aload_n (pc := 58) X dX9_line_58 rfl ?_
          refine j_iload_n (pc := 59) X dX9_line_59 rfl ?_
          refine j_iload_n (pc := 60) X dX9_line_60 rfl ?_
          obtain ⟨r10, h9, hf⟩ := kB hf
          refine j_callI (pc := 61) X (c_X9_lineSum N C2 a1 a2 h9) gX9_line_X9_lineSum rfl ⟨rfl, rfl⟩ rfl hd_X9_lineSum ⟨(Nat.le_of_ble_eq_true rfl), (Nat.le_of_ble_eq_true rfl)⟩ wm0 rfl rfl rfl (Nat.le_of_ble_eq_true rfl) rfl dX9_line_61 ?_
          exact j_retW hR dX9_line_64 hf
        · have hf := kT c8 hf
          refine j_aload_n (pc := 33) X dX9_line_33 rfl ?_
          refine j_get (pc := 34) X iw_X9_line_X9 wm0 rfl 0 (Nat.le_of_ble_eq_true rfl) lk_X9_line_1 (v := .ref (am 1)) rfl dX9_line_34 ?_
          refine j_bipush (pc := 37) X dX9_line_37 kb_7 ?_
          obtain ⟨b11, hf⟩ := gIn_s hf
          refine j_iald (pc := 39) X wm1 b11 dX9_line_39 ?_
          refine j_aload_n (pc := 40) X dX9_line_40 rfl ?_
          refine j_iload_n (pc := 41) X dX9_line_41 rfl ?_
          refine j_iconst (pc := 42) X dX9_line_42 kc_2 ?_
          obtain ⟨r13, h12, hf⟩ := kB hf
          refine j_callI (pc := 43) X (c_X9_lineSum N C2 a1 2 h12) gX9_line_X9_lineSum rfl ⟨rfl, rfl⟩ rfl hd_X9_lineSum ⟨(Nat.le_of_ble_eq_true rfl), (Nat.le_of_ble_eq_true rfl)⟩ wm0 rfl rfl rfl (Nat.le_of_ble_eq_true rfl) rfl dX9_line_43 ?_
          refine j_isub (pc := 46) X dX9_line_46 ?_
          refine j_istore_n (pc := 47) X dX9_line_47 (Nat.le_of_ble_eq_true rfl) (lv' := [some (.ref (am 0)), some (.int a1), some (.int a2), some (.int ((C2 1 (7 : Int32).toNatClampNeg) - r13))]) rfl ?_
          refine j_iload_n (pc := 48) X dX9_line_48 rfl ?_
          obtain ⟨j57_14, ej57_14, hf⟩ := jn_s hf
          have hj57_14 : ∀ (t14 : Int32), j57_14 t14 = some (r, Cr) → J g (WM cI am) 4 C2 57 [some (.ref (am 0)), some (.int a1), some (.int a2), some (.int ((C2 1 (7 : Int32).toNatClampNeg) - r13))] [.int t14] := by
            intro t14 hf
            have hf := jE1 ej57_14 hf
            exact j_retW hR dX9_line_57 hf
          refine j_if_ge (tgt := 56) (pc := 49) X dX9_line_49 rfl (fun c16 => ?_) (fun c16 => ?_)
          · have hf := kT c16 hf
            refine j_iload_n (pc := 56) X dX9_line_56 rfl ?_
            exact hj57_14 _ hf
          · have hf := kF c16 hf
            refine j_iconst (pc := 52) X dX9_line_52 kc_0 ?_
            refine j_goto (tgt := 57) (pc := 53) X dX9_line_53 rfl ?_
            exact hj57_14 _ hf
      · have hf := kT c7 hf
        refine j_bipush (pc := 25) X dX9_line_25 kb_m11 ?_
        exact j_retW hR dX9_line_27 hf
theorem c_X9_line {l : Launch} {D : va_G} {cI cS : ClassId} {am : Nat → Nat} (hI : kInj 11 am) (N : Nat) (C : kS) (a1 : Int32) (a2 : Int32) {r : Int32} {Cr : kS} (hf : f_X9_line N C a1 a2 = some (r, Cr)) : mW l yX9_line wsX9_line rm_X9_line D cI cS (WM cI am) (kAd 11 am) C [.ref (am 0), .int a1, .int a2] r Cr :=
  mW.of (by decide) rfl rfl (Nat.le_of_ble_eq_true rfl) (WM_D hI) (fun g X Y hR => t_X9_line X hI Y hR N C a1 a2  hf)
abbrev rm_X9_modeFor : Room := { frames := 5, cells := 0, slots := 0, locals := 114 }
theorem lk_X9_modeFor_0 : Cond.fieldLink RX9 7 "BlackBarsModel" "s" "[I" ∈ wsX9_modeFor := List.mem_of_getElem? (i := 1) rfl
theorem iw_X9_modeFor_X9 : ∀ w ∈ wsX90, w ∈ wsX9_modeFor := fun _ h => List.mem_cons_of_mem _ (List.mem_append_right _ h)
def lp_X9_modeFor_7 (N : Nat) (k63_2 : Int32 → kS → Option (Int32 × kS)) : Nat → Int32 → Int32 → Int32 → kS → Option (Int32 × kS)
  | 0, _, _, _, _ => none
  | n + 1, x4, x5, x6, C7 => if 4 ≤ x6 then k63_2 x4 C7 else gIn 4 642 ((f_X9_lays N C7 x6 (C7 1 (4 : Int32).toNatClampNeg)).bind (fun C11 => (f_X9_sumOf N C11 12).bind (fun r13 => (f_X9_sumOf N C11 11).bind (fun r15 => jn (fun (x16 : Int32) (x17 : Int32) => lp_X9_modeFor_7 N k63_2 n x16 x17 (x6 + 1) C11) (fun j57_17 => if r15 = 0 then jn (j57_17 x6 r13) (fun j52_19 => if x4 = (-14) then j52_19 else if x5 ≤ r13 then j57_17 x4 x5 else j52_19) else j57_17 x4 x5)))))
def f_X9_modeFor (N : Nat) (C : kS) : Option (Int32 × kS) := jn (fun (x1 : Int32) (C2 : kS) => some (x1, C2)) (fun k63_2 => lp_X9_modeFor_7 N k63_2 N (-14) 0 0 C)
theorem hd_X9_modeFor : kHd yX9_modeFor 0 := by decide +kernel
set_option maxHeartbeats 4000000 in
set_option maxRecDepth 100000 in
theorem lt_X9_modeFor_7 {g : kG} {cI cS : ClassId} {am : Nat → Nat} (X : Kx g cI cS cX9_modeFor RX9 wsX9_modeFor 5 rm_X9_modeFor) {r : Int32} {Cr : kS} (hI : kInj 11 am) (Y : Kw g (WM cI am) (kAd 11 am)) (hR : kRI g (WM cI am) 5 cX9_modeFor .int Cr r) (N : Nat)   (k63_2 : Int32 → kS → Option (Int32 × kS)) (hk63_2 : ∀ (x1 : Int32) (C2 : kS), k63_2 x1 C2 = some (r, Cr) → J g (WM cI am) 5 C2 63 [some (.ref (am 0)), some (.int x1), none, none, none] []) : ∀ (n : Nat) (x4 : Int32) (x5 : Int32) (x6 : Int32) (C7 : kS), lp_X9_modeFor_7 N k63_2 n x4 x5 x6 C7 = some (r, Cr) → J g (WM cI am) 5 C7 7 [some (.ref (am 0)), some (.int x4), some (.int x5), some (.int x6), none] [] := by
  intro n
  induction n with
  | zero =>
    intro x4 x5 x6 C7 hf
    rw [lp_X9_modeFor_7] at hf
    cases hf
  | succ n ih =>
    intro x4 x5 x6 C7 hf
    rw [lp_X9_modeFor_7] at hf
    refine j_iload_n (pc := 7) X dX9_modeFor_7 rfl ?_
    refine j_iconst (pc := 8) X dX9_modeFor_8 kc_4 ?_
    refine j_icmp_ge (tgt := 63) (pc := 9) X dX9_modeFor_9 rfl (fun c8 => ?_) (fun c8 => ?_)
    · have hf := kT c8 hf
      refine j_weak (lv' := [some (.ref (am 0)), some (.int x4), none, none, none]) (And.intro rfl (And.intro rfl trivial)) ?_
      exact hk63_2 _ _ hf
    · have hf := kF c8 hf
      refine j_aload_n (pc := 12) X dX9_modeFor_12 rfl ?_
      refine j_iload_n (pc := 13) X dX9_modeFor_13 rfl ?_
      refine j_aload_n (pc := 14) X dX9_modeFor_14 rfl ?_
      refine j_get (pc := 15) X iw_X9_modeFor_X9 wm0 rfl 0 (Nat.le_of_ble_eq_true rfl) lk_X9_modeFor_0 (v := .ref (am 1)) rfl dX9_modeFor_15 ?_
      refine j_iconst (pc := 18) X dX9_modeFor_18 kc_4 ?_
      obtain ⟨b9, hf⟩ := gIn_s hf
      refine j_iald (pc := 19) X wm1 b9 dX9_modeFor_19 ?_
      obtain ⟨C11, h10, hf⟩ := kB hf
      refine j_callV (pc := 20) X Y (c_X9_lays hI N C7 x6 (C7 1 (4 : Int32).toNatClampNeg) h10) gX9_modeFor_X9_lays rfl ⟨rfl, rfl⟩ rfl hd_X9_lays ⟨(Nat.le_of_ble_eq_true rfl), (Nat.le_of_ble_eq_true rfl)⟩ wm0 rfl rfl rfl (Nat.le_of_ble_eq_true rfl) rfl dX9_modeFor_20 ?_
      refine j_aload_n (pc := 23) X dX9_modeFor_23 rfl ?_
      refine j_bipush (pc := 24) X dX9_modeFor_24 kb_12 ?_
      obtain ⟨r13, h12, hf⟩ := kB hf
      refine j_callI (pc := 26) X (c_X9_sumOf N C11 12 h12) gX9_modeFor_X9_sumOf rfl ⟨rfl, rfl⟩ rfl hd_X9_sumOf ⟨(Nat.le_of_ble_eq_true rfl), (Nat.le_of_ble_eq_true rfl)⟩ wm0 rfl rfl rfl (Nat.le_of_ble_eq_true rfl) rfl dX9_modeFor_26 ?_
      refine j_istore (pc := 29) X dX9_modeFor_29 (Nat.le_of_ble_eq_true rfl) (lv' := [some (.ref (am 0)), some (.int x4), some (.int x5), some (.int x6), some (.int r13)]) rfl ?_
      refine j_aload_n (pc := 31) X dX9_modeFor_31 rfl ?_
      refine j_bipush (pc := 32) X dX9_modeFor_32 kb_11 ?_
      obtain ⟨r15, h14, hf⟩ := kB hf
      refine j_callI (pc := 34) X (c_X9_sumOf N C11 11 h14) gX9_modeFor_X9_sumOf rfl ⟨rfl, rfl⟩ rfl hd_X9_sumOf ⟨(Nat.le_of_ble_eq_true rfl), (Nat.le_of_ble_eq_true rfl)⟩ wm0 rfl rfl rfl (Nat.le_of_ble_eq_true rfl) rfl dX9_modeFor_34 ?_
      obtain ⟨j57_17, ej57_17, hf⟩ := jn_s hf
      have hj57_17 : ∀ (x16 : Int32) (x17 : Int32), j57_17 x16 x17 = some (r, Cr) → J g (WM cI am) 5 C11 57 [some (.ref (am 0)), some (.int x16), some (.int x17), some (.int x6), some (.int r13)] [] := by
        intro x16 x17 hf
        have hf := jE2 ej57_17 hf
        refine j_iinc (pc := 57) X dX9_modeFor_57 rfl (v := x6 + 1) (by rw [kc_1]) (Nat.le_of_ble_eq_true rfl) (lv' := [some (.ref (am 0)), some (.int x16), some (.int x17), some (.int (x6 + 1)), some (.int r13)]) rfl ?_
        refine j_goto (tgt := 7) (pc := 60) X dX9_modeFor_60 rfl ?_
        refine j_weak (lv' := [some (.ref (am 0)), some (.int x16), some (.int x17), some (.int (x6 + 1)), none]) (And.intro rfl (And.intro rfl (And.intro rfl (And.intro rfl trivial)))) ?_
        exact ih _ _ _ _ hf
      refine j_if_ne (tgt := 57) (pc := 37) X dX9_modeFor_37 rfl (fun c19 => ?_) (fun c19 => ?_)
      · have hf := kF c19 hf
        exact hj57_17 _ _ hf
      · have hf := kT c19 hf
        refine j_iload_n (pc := 40) X dX9_modeFor_40 rfl ?_
        refine j_bipush (pc := 41) X dX9_modeFor_41 kb_m14 ?_
        obtain ⟨j52_19, ej52_19, hf⟩ := jn_s hf
        have hj52_19 : ∀ (_ : Unit), j52_19 = some (r, Cr) → J g (WM cI am) 5 C11 52 [some (.ref (am 0)), some (.int x4), some (.int x5), some (.int x6), some (.int r13)] [] := by
          intro _ hf
          have hf := jE0 ej52_19 hf
          refine j_iload_n (pc := 52) X dX9_modeFor_52 rfl ?_
          refine j_istore_n (pc := 53) X dX9_modeFor_53 (Nat.le_of_ble_eq_true rfl) (lv' := [some (.ref (am 0)), some (.int x6), some (.int x5), some (.int x6), some (.int r13)]) rfl ?_
          refine j_iload (pc := 54) X dX9_modeFor_54 rfl ?_
          refine j_istore_n (pc := 56) X dX9_modeFor_56 (Nat.le_of_ble_eq_true rfl) (lv' := [some (.ref (am 0)), some (.int x6), some (.int r13), some (.int x6), some (.int r13)]) rfl ?_
          exact hj57_17 _ _ hf
        refine j_icmp_eq (tgt := 52) (pc := 43) X dX9_modeFor_43 rfl (fun c21 => ?_) (fun c21 => ?_)
        · have hf := kT c21 hf
          exact hj52_19 () hf
        · have hf := kF c21 hf
          refine j_iload (pc := 46) X dX9_modeFor_46 rfl ?_
          refine j_iload_n (pc := 48) X dX9_modeFor_48 rfl ?_
          refine j_icmp_ge (tgt := 57) (pc := 49) X dX9_modeFor_49 rfl (fun c22 => ?_) (fun c22 => ?_)
          · have hf := kT c22 hf
            exact hj57_17 _ _ hf
          · have hf := kF c22 hf
            exact hj52_19 () hf
set_option maxHeartbeats 4000000 in
set_option maxRecDepth 100000 in
theorem t_X9_modeFor {g : kG} {cI cS : ClassId} {am : Nat → Nat} (X : Kx g cI cS cX9_modeFor RX9 wsX9_modeFor 5 rm_X9_modeFor) {r : Int32} {Cr : kS} (hI : kInj 11 am) (Y : Kw g (WM cI am) (kAd 11 am)) (hR : kRI g (WM cI am) 5 cX9_modeFor .int Cr r) (N : Nat) (C : kS)   (hf : f_X9_modeFor N C = some (r, Cr)) : J g (WM cI am) 5 C 0 [some (.ref (am 0)), none, none, none, none] [] := by
  unfold f_X9_modeFor at hf
  refine j_bipush (pc := 0) X dX9_modeFor_0 kb_m14 ?_
  refine j_istore_n (pc := 2) X dX9_modeFor_2 (Nat.le_of_ble_eq_true rfl) (lv' := [some (.ref (am 0)), some (.int (-14)), none, none, none]) rfl ?_
  refine j_iconst (pc := 3) X dX9_modeFor_3 kc_0 ?_
  refine j_istore_n (pc := 4) X dX9_modeFor_4 (Nat.le_of_ble_eq_true rfl) (lv' := [some (.ref (am 0)), some (.int (-14)), some (.int 0), none, none]) rfl ?_
  refine j_iconst (pc := 5) X dX9_modeFor_5 kc_0 ?_
  refine j_istore_n (pc := 6) X dX9_modeFor_6 (Nat.le_of_ble_eq_true rfl) (lv' := [some (.ref (am 0)), some (.int (-14)), some (.int 0), some (.int 0), none]) rfl ?_
  obtain ⟨k63_2, ek63_2, hf⟩ := jn_s hf
  have hk63_2 : ∀ (x1 : Int32) (C2 : kS), k63_2 x1 C2 = some (r, Cr) → J g (WM cI am) 5 C2 63 [some (.ref (am 0)), some (.int x1), none, none, none] [] := by
    intro x1 C2 hf
    have hf := jE2 ek63_2 hf
    refine j_iload_n (pc := 63) X dX9_modeFor_63 rfl ?_
    exact j_retW hR dX9_modeFor_64 hf
  exact lt_X9_modeFor_7 X hI Y hR N   k63_2 hk63_2 N _ _ _ _ hf
theorem c_X9_modeFor {l : Launch} {D : va_G} {cI cS : ClassId} {am : Nat → Nat} (hI : kInj 11 am) (N : Nat) (C : kS)  {r : Int32} {Cr : kS} (hf : f_X9_modeFor N C = some (r, Cr)) : mW l yX9_modeFor wsX9_modeFor rm_X9_modeFor D cI cS (WM cI am) (kAd 11 am) C [.ref (am 0)] r Cr :=
  mW.of (by decide) rfl rfl (Nat.le_of_ble_eq_true rfl) (WM_D hI) (fun g X Y hR => t_X9_modeFor X hI Y hR N C   hf)
