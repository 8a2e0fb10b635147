abbrev rm_X9_reasonAt : Room := { frames := 2, cells := 0, slots := 0, locals := 42 }
theorem lk_X9_reasonAt_0 : Cond.fieldLink RX9 16 "BlackBarsModel" "text" "[I" ∈ wsX9_reasonAt := List.mem_of_getElem? (i := 1) rfl
theorem iw_X9_reasonAt_X9 : ∀ w ∈ wsX90, w ∈ wsX9_reasonAt := fun _ h => List.mem_cons_of_mem _ (List.mem_append_right _ h)
theorem lk_X9_reasonAt_1 : Cond.fieldLink RX9 48 "BlackBarsModel" "typed" "I" ∈ wsX9_reasonAt := List.mem_of_getElem? (i := 2) rfl
def f_X9_reasonAt (N : Nat) (C : kS) (a1 : Int32) (a2 : Int32) (a3 : Int32) : Option (Int32) := gIn a1 200 (if (C 3 a1.toNatClampNeg) = 32 then jn (fun (t12 : Int32) => some t12) (fun j43_12 => jn (j43_12 2) (fun j38_13 => if a1 = 0 then j38_13 else gIn (a1 - 1) 200 (if (C 3 (a1 - 1).toNatClampNeg) = 32 then j38_13 else if a1 = ((C 0 4) - 1) then j38_13 else j43_12 0))) else gIn a1 200 ((f_X9_isLetter N (C 3 a1.toNatClampNeg)).bind (fun r5 => if r5 = 0 then some 1 else jn (fun (t7 : Int32) => some t7) (fun j83_7 => if a2 = 12 then j83_7 3 else if a2 = 0 then if a3 = 40 then j83_7 4 else j83_7 0 else j83_7 0))))
theorem hd_X9_reasonAt : kHd yX9_reasonAt 3 := by decide +kernel
set_option maxHeartbeats 4000000 in
set_option maxRecDepth 100000 in
theorem t_X9_reasonAt {g : kG} {cI cS : ClassId} {am : Nat → Nat} {C : kS} (X : Kx g cI cS cX9_reasonAt RX9 wsX9_reasonAt 4 rm_X9_reasonAt) {r : Int32} (hR : kRI g (WM cI am) 4 cX9_reasonAt .int C r) (N : Nat) (a1 : Int32) (a2 : Int32) (a3 : Int32)  (hf : f_X9_reasonAt N C a1 a2 a3 = some r) : J g (WM cI am) 4 C 0 [some (.ref (am 0)), some (.int a1), some (.int a2), some (.int a3)] [] := by
  unfold f_X9_reasonAt at hf
  refine j_aload_n (pc := 0) X dX9_reasonAt_0 rfl ?_
  refine j_get (pc := 1) X iw_X9_reasonAt_X9 wm0 rfl 3 (Nat.le_of_ble_eq_true rfl) lk_X9_reasonAt_0 (v := .ref (am 3)) rfl dX9_reasonAt_1 ?_
  refine j_iload_n (pc := 4) X dX9_reasonAt_4 rfl ?_
  obtain ⟨b1, hf⟩ := gIn_s hf
  refine j_iald (pc := 5) X wm3 b1 dX9_reasonAt_5 ?_
  refine j_bipush (pc := 6) X dX9_reasonAt_6 kb_32 ?_
  refine j_icmp_ne (tgt := 44) (pc := 8) X dX9_reasonAt_8 rfl (fun c2 => ?_) (fun c2 => ?_)
  · have hf := kF c2 hf
    refine j_aload_n (pc := 44) X dX9_reasonAt_44 rfl ?_
    refine j_get (pc := 45) X iw_X9_reasonAt_X9 wm0 rfl 3 (Nat.le_of_ble_eq_true rfl) lk_X9_reasonAt_0 (v := .ref (am 3)) rfl dX9_reasonAt_45 ?_
    refine j_iload_n (pc := 48) X dX9_reasonAt_48 rfl ?_
    obtain ⟨b3, hf⟩ := gIn_s hf
    refine j_iald (pc := 49) X wm3 b3 dX9_reasonAt_49 ?_
    obtain ⟨r5, h4, hf⟩ := kB hf
    refine j_callP (pc := 50) X (c_X9_isLetter N (C 3 a1.toNatClampNeg) h4) gX9_reasonAt_X9_isLetter rfl ⟨rfl, rfl⟩ hd_X9_isLetter ⟨(Nat.le_of_ble_eq_true rfl), (Nat.le_of_ble_eq_true rfl)⟩ rfl (Nat.le_of_ble_eq_true rfl) rfl dX9_reasonAt_50 ?_
    refine j_if_ne (tgt := 58) (pc := 53) X dX9_reasonAt_53 rfl (fun c6 => ?_) (fun c6 => ?_)
    · have hf := kF c6 hf
      refine j_iload_n (pc := 58) X dX9_reasonAt_58 rfl ?_
      refine j_bipush (pc := 59) X dX9_reasonAt_59 kb_12 ?_
      obtain ⟨j83_7, ej83_7, hf⟩ := jn_s hf
      have hj83_7 : ∀ (t7 : Int32), j83_7 t7 = some r → J g (WM cI am) 4 C 83 [some (.ref (am 0)), some (.int a1), some (.int a2), some (.int a3)] [.int t7] := by
        intro t7 hf
        have hf := jE1 ej83_7 hf
        exact j_retI hR dX9_reasonAt_83 hf
      refine j_icmp_ne (tgt := 68) (pc := 61) X dX9_reasonAt_61 rfl (fun c9 => ?_) (fun c9 => ?_)
      · have hf := kF c9 hf
        refine j_iload_n (pc := 68) X dX9_reasonAt_68 rfl ?_
        refine j_if_ne (tgt := 82) (pc := 69) X dX9_reasonAt_69 rfl (fun c10 => ?_) (fun c10 => ?_)
        · have hf := kF c10 hf
          refine j_iconst (pc := 82) X dX9_reasonAt_82 kc_0 ?_
          exact hj83_7 _ hf
        · have hf := kT c10 hf
          refine j_iload_n (pc := 72) X dX9_reasonAt_72 rfl ?_
          refine j_bipush (pc := 73) X dX9_reasonAt_73 kb_40 ?_
          refine j_icmp_ne (tgt := 82) (pc := 75) X dX9_reasonAt_75 rfl (fun c11 => ?_) (fun c11 => ?_)
          · have hf := kF c11 hf
            refine j_iconst (pc := 82) X dX9_reasonAt_82 kc_0 ?_
            exact hj83_7 _ hf
          · have hf := kT c11 hf
            refine j_iconst (pc := 78) X dX9_reasonAt_78 kc_4 ?_
            refine j_goto (tgt := 83) (pc := 79) X dX9_reasonAt_79 rfl ?_
            exact hj83_7 _ hf
      · have hf := kT c9 hf
        refine j_iconst (pc := 64) X dX9_reasonAt_64 kc_3 ?_
        refine j_goto (tgt := 83) (pc := 65) X dX9_reasonAt_65 rfl ?_
        exact hj83_7 _ hf
    · have hf := kT c6 hf
      refine j_iconst (pc := 56) X dX9_reasonAt_56 kc_1 ?_
      exact j_retI hR dX9_reasonAt_57 hf
  · have hf := kT c2 hf
    refine j_iload_n (pc := 11) X dX9_reasonAt_11 rfl ?_
    obtain ⟨j43_12, ej43_12, hf⟩ := jn_s hf
    have hj43_12 : ∀ (t12 : Int32), j43_12 t12 = some r → J g (WM cI am) 4 C 43 [some (.ref (am 0)), some (.int a1), some (.int a2), some (.int a3)] [.int t12] := by
      intro t12 hf
      have hf := jE1 ej43_12 hf
      exact j_retI hR dX9_reasonAt_43 hf
    obtain ⟨j38_13, ej38_13, hf⟩ := jn_s hf
    have hj38_13 : ∀ (_ : Unit), j38_13 = some r → J g (WM cI am) 4 C 38 [some (.ref (am 0)), some (.int a1), some (.int a2), some (.int a3)] [] := by
      intro _ hf
      have hf := jE0 ej38_13 hf
      refine j_iconst (pc := 38) X dX9_reasonAt_38 kc_2 ?_
      refine j_goto (tgt := 43) (pc := 39) X dX9_reasonAt_39 rfl ?_
      exact hj43_12 _ hf
    refine j_if_eq (tgt := 38) (pc := 12) X dX9_reasonAt_12 rfl (fun c15 => ?_) (fun c15 => ?_)
    · have hf := kT c15 hf
      exact hj38_13 () hf
    · have hf := kF c15 hf
      refine j_aload_n (pc := 15) X dX9_reasonAt_15 rfl ?_
      refine j_get (pc := 16) X iw_X9_reasonAt_X9 wm0 rfl 3 (Nat.le_of_ble_eq_true rfl) lk_X9_reasonAt_0 (v := .ref (am 3)) rfl dX9_reasonAt_16 ?_
      refine j_iload_n (pc := 19) X dX9_reasonAt_19 rfl ?_
      refine j_iconst (pc := 20) X dX9_reasonAt_20 kc_1 ?_
      refine j_isub (pc := 21) X dX9_reasonAt_21 ?_
      obtain ⟨b16, hf⟩ := gIn_s hf
      refine j_iald (pc := 22) X wm3 b16 dX9_reasonAt_22 ?_
      refine j_bipush (pc := 23) X dX9_reasonAt_23 kb_32 ?_
      refine j_icmp_eq (tgt := 38) (pc := 25) X dX9_reasonAt_25 rfl (fun c17 => ?_) (fun c17 => ?_)
      · have hf := kT c17 hf
        exact hj38_13 () hf
      · have hf := kF c17 hf
        refine j_iload_n (pc := 28) X dX9_reasonAt_28 rfl ?_
        refine j_aload_n (pc := 29) X dX9_reasonAt_29 rfl ?_
        refine j_get (pc := 30) X iw_X9_reasonAt_X9 wm0 rfl 4 (Nat.le_of_ble_eq_true rfl) lk_X9_reasonAt_1 (v := .int (C 0 4)) rfl dX9_reasonAt_30 ?_
        refine j_iconst (pc := 33) X dX9_reasonAt_33 kc_1 ?_
        refine j_isub (pc := 34) X dX9_reasonAt_34 ?_
        refine j_icmp_ne (tgt := 42) (pc := 35) X dX9_reasonAt_35 rfl (fun c18 => ?_) (fun c18 => ?_)
        · have hf := kF c18 hf
          refine j_iconst (pc := 42) X dX9_reasonAt_42 kc_0 ?_
          exact hj43_12 _ hf
        · have hf := kT c18 hf
          exact hj38_13 () hf
theorem c_X9_reasonAt {l : Launch} {D : va_G} {cI cS : ClassId} {am : Nat → Nat} (N : Nat) (C : kS) (a1 : Int32) (a2 : Int32) (a3 : Int32) {r : Int32} (hf : f_X9_reasonAt N C a1 a2 a3 = some r) : mI l yX9_reasonAt wsX9_reasonAt rm_X9_reasonAt D cI cS (WM cI am) C [.ref (am 0), .int a1, .int a2, .int a3] r :=
  mI.of (by decide) rfl rfl (Nat.le_of_ble_eq_true rfl) (fun g X hR => t_X9_reasonAt X  hR N a1 a2 a3  hf)
abbrev rm_X9_faultAt : Room := { frames := 3, cells := 0, slots := 0, locals := 65 }
theorem lk_X9_faultAt_0 : Cond.fieldLink RX9 48 "BlackBarsModel" "typed" "I" ∈ wsX9_faultAt := List.mem_of_getElem? (i := 1) rfl
theorem iw_X9_faultAt_X9 : ∀ w ∈ wsX90, w ∈ wsX9_faultAt := fun _ h => List.mem_cons_of_mem _ (List.mem_append_right _ h)
theorem lk_X9_faultAt_1 : Cond.fieldLink RX9 59 "BlackBarsModel" "reason" "I" ∈ wsX9_faultAt := List.mem_of_getElem? (i := 2) rfl
theorem lk_X9_faultAt_2 : Cond.fieldLink RX9 16 "BlackBarsModel" "text" "[I" ∈ wsX9_faultAt := List.mem_of_getElem? (i := 3) rfl
def lp_X9_faultAt_6 (N : Nat) (k82_1 : kS → Option (Int32 × kS)) : Nat → Int32 → Int32 → Int32 → kS → Option (Int32 × kS)
  | 0, _, _, _, _ => none
  | n + 1, x3, x4, x5, C6 => if (C6 0 4) ≤ x5 then k82_1 C6 else (f_X9_reasonAt N C6 x5 x3 x4).bind (fun r9 => jn (up1 C6 0 (upd (C6 0) 5 r9)) (fun C10 : kS => if (C10 0 5) ≤ 0 then gIn x5 200 (jn (fun (t13 : Int32) => gIn x5 200 (jn (fun (t16 : Int32) => lp_X9_faultAt_6 N k82_1 n t16 (x4 + t13) (x5 + 1) C10) (fun j75_16 => if (C10 3 x5.toNatClampNeg) = 32 then j75_16 0 else j75_16 (x3 + 1)))) (fun j55_13 => jn (j55_13 0) (fun j54_18 => if (C10 3 x5.toNatClampNeg) = 32 then j54_18 else if x3 = 0 then j55_13 1 else j54_18))) else some (x5, C10)))
def f_X9_faultAt (N : Nat) (C : kS) : Option (Int32 × kS) := jn (fun (C1 : kS) => some ((-14), C1)) (fun k82_1 => lp_X9_faultAt_6 N k82_1 N 0 0 0 C)
theorem hd_X9_faultAt : kHd yX9_faultAt 0 := by decide +kernel
set_option maxHeartbeats 4000000 in
set_option maxRecDepth 100000 in
theorem lt_X9_faultAt_6 {g : kG} {cI cS : ClassId} {am : Nat → Nat} (X : Kx g cI cS cX9_faultAt RX9 wsX9_faultAt 4 rm_X9_faultAt) {r : Int32} {Cr : kS} (hI : kInj 11 am) (Y : Kw g (WM cI am) (kAd 11 am)) (hR : kRI g (WM cI am) 4 cX9_faultAt .int Cr r) (N : Nat)   (k82_1 : kS → Option (Int32 × kS)) (hk82_1 : ∀ (C1 : kS), k82_1 C1 = some (r, Cr) → J g (WM cI am) 4 C1 82 [some (.ref (am 0)), none, none, none] []) : ∀ (n : Nat) (x3 : Int32) (x4 : Int32) (x5 : Int32) (C6 : kS), lp_X9_faultAt_6 N k82_1 n x3 x4 x5 C6 = some (r, Cr) → J g (WM cI am) 4 C6 6 [some (.ref (am 0)), some (.int x3), some (.int x4), some (.int x5)] [] := by
  intro n
  induction n with
  | zero =>
    intro x3 x4 x5 C6 hf
    rw [lp_X9_faultAt_6] at hf
    cases hf
  | succ n ih =>
    intro x3 x4 x5 C6 hf
    rw [lp_X9_faultAt_6] at hf
    refine j_iload_n (pc := 6) X dX9_faultAt_6 rfl ?_
    refine j_aload_n (pc := 7) X dX9_faultAt_7 rfl ?_
    refine j_get (pc := 8) X iw_X9_faultAt_X9 wm0 rfl 4 (Nat.le_of_ble_eq_true rfl) lk_X9_faultAt_0 (v := .int (C6 0 4)) rfl dX9_faultAt_8 ?_
    refine j_icmp_ge (tgt := 82) (pc := 11) X dX9_faultAt_11 rfl (fun c7 => ?_) (fun c7 => ?_)
    · have hf := kT c7 hf
      refine j_weak (lv' := [some (.ref (am 0)), none, none, none]) (And.intro rfl trivial) ?_
      exact hk82_1 _ hf
    · have hf := kF c7 hf
      refine j_aload_n (pc := 14) X dX9_faultAt_14 rfl ?_
      refine j_aload_n (pc := 15) X dX9_faultAt_15 rfl ?_
      refine j_iload_n (pc := 16) X dX9_faultAt_16 rfl ?_
      refine j_iload_n (pc := 17) X dX9_faultAt_17 rfl ?_
      refine j_iload_n (pc := 18) X dX9_faultAt_18 rfl ?_
      obtain ⟨r9, h8, hf⟩ := kB hf
      refine j_callI (pc := 19) X (c_X9_reasonAt N C6 x5 x3 x4 h8) gX9_faultAt_X9_reasonAt rfl ⟨rfl, rfl⟩ rfl hd_X9_reasonAt ⟨(Nat.le_of_ble_eq_true rfl), (Nat.le_of_ble_eq_true rfl)⟩ wm0 rfl rfl rfl (Nat.le_of_ble_eq_true rfl) rfl dX9_faultAt_19 ?_
      obtain ⟨C10, eC10, hf⟩ := jn_s hf
      refine j_put (C' := C10) (pc := 22) X Y iw_X9_faultAt_X9 tyX9 tyX9_ok nmX9 wm0 rfl 5 (Nat.le_of_ble_eq_true rfl) lk_X9_faultAt_1 rfl (tyX9_ok 5 (Nat.le_of_ble_eq_true rfl)) (Nat.le_of_ble_eq_true rfl) dX9_faultAt_22 (by rw [eC10]; exact sm0_5 _) ?_
      refine j_aload_n (pc := 25) X dX9_faultAt_25 rfl ?_
      refine j_get (pc := 26) X iw_X9_faultAt_X9 wm0 rfl 5 (Nat.le_of_ble_eq_true rfl) lk_X9_faultAt_1 (v := .int (C10 0 5)) rfl dX9_faultAt_26 ?_
      refine j_if_le (tgt := 34) (pc := 29) X dX9_faultAt_29 rfl (fun c11 => ?_) (fun c11 => ?_)
      · have hf := kT c11 hf
        refine j_iload_n (pc := 34) X dX9_faultAt_34 rfl ?_
        refine j_aload_n (pc := 35) X dX9_faultAt_35 rfl ?_
        refine j_get (pc := 36) X iw_X9_faultAt_X9 wm0 rfl 3 (Nat.le_of_ble_eq_true rfl) lk_X9_faultAt_2 (v := .ref (am 3)) rfl dX9_faultAt_36 ?_
        refine j_iload_n (pc := 39) X dX9_faultAt_39 rfl ?_
        obtain ⟨b12, hf⟩ := gIn_s hf
        refine j_iald (pc := 40) X wm3 b12 dX9_faultAt_40 ?_
        refine j_bipush (pc := 41) X dX9_faultAt_41 kb_32 ?_
        obtain ⟨j55_13, ej55_13, hf⟩ := jn_s hf
        have hj55_13 : ∀ (t13 : Int32), j55_13 t13 = some (r, Cr) → J g (WM cI am) 4 C10 55 [some (.ref (am 0)), some (.int x3), some (.int x4), some (.int x5)] [.int t13, .int x4] := by
          intro t13 hf
          have hf := jE1 ej55_13 hf
          refine j_iadd (pc := 55) X dX9_faultAt_55 ?_
          refine j_istore_n (pc := 56) X dX9_faultAt_56 (Nat.le_of_ble_eq_true rfl) (lv' := [some (.ref (am 0)), some (.int x3), some (.int (x4 + t13)), some (.int x5)]) rfl ?_
          refine j_aload_n (pc := 57) X dX9_faultAt_57 rfl ?_
          refine j_get (pc := 58) X iw_X9_faultAt_X9 wm0 rfl 3 (Nat.le_of_ble_eq_true rfl) lk_X9_faultAt_2 (v := .ref (am 3)) rfl dX9_faultAt_58 ?_
          refine j_iload_n (pc := 61) X dX9_faultAt_61 rfl ?_
          obtain ⟨b15, hf⟩ := gIn_s hf
          refine j_iald (pc := 62) X wm3 b15 dX9_faultAt_62 ?_
          refine j_bipush (pc := 63) X dX9_faultAt_63 kb_32 ?_
          obtain ⟨j75_16, ej75_16, hf⟩ := jn_s hf
          have hj75_16 : ∀ (t16 : Int32), j75_16 t16 = some (r, Cr) → J g (WM cI am) 4 C10 75 [some (.ref (am 0)), some (.int x3), some (.int (x4 + t13)), some (.int x5)] [.int t16] := by
            intro t16 hf
            have hf := jE1 ej75_16 hf
            refine j_istore_n (pc := 75) X dX9_faultAt_75 (Nat.le_of_ble_eq_true rfl) (lv' := [some (.ref (am 0)), some (.int t16), some (.int (x4 + t13)), some (.int x5)]) rfl ?_
            refine j_iinc (pc := 76) X dX9_faultAt_76 rfl (v := x5 + 1) (by rw [kc_1]) (Nat.le_of_ble_eq_true rfl) (lv' := [some (.ref (am 0)), some (.int t16), some (.int (x4 + t13)), some (.int (x5 + 1))]) rfl ?_
            refine j_goto (tgt := 6) (pc := 79) X dX9_faultAt_79 rfl ?_
            exact ih _ _ _ _ hf
          refine j_icmp_ne (tgt := 72) (pc := 65) X dX9_faultAt_65 rfl (fun c18 => ?_) (fun c18 => ?_)
          · have hf := kF c18 hf
            refine j_iload_n (pc := 72) X dX9_faultAt_72 rfl ?_
            refine j_iconst (pc := 73) X dX9_faultAt_73 kc_1 ?_
            refine j_iadd (pc := 74) X dX9_faultAt_74 ?_
            exact hj75_16 _ hf
          · have hf := kT c18 hf
            refine j_iconst (pc := 68) X dX9_faultAt_68 kc_0 ?_
            refine j_goto (tgt := 75) (pc := 69) X dX9_faultAt_69 rfl ?_
            exact hj75_16 _ hf
        obtain ⟨j54_18, ej54_18, hf⟩ := jn_s hf
        have hj54_18 : ∀ (_ : Unit), j54_18 = some (r, Cr) → J g (WM cI am) 4 C10 54 [some (.ref (am 0)), some (.int x3), some (.int x4), some (.int x5)] [.int x4] := by
          intro _ hf
          have hf := jE0 ej54_18 hf
          refine j_iconst (pc := 54) X dX9_faultAt_54 kc_0 ?_
          exact hj55_13 _ hf
        refine j_icmp_eq (tgt := 54) (pc := 43) X dX9_faultAt_43 rfl (fun c20 => ?_) (fun c20 => ?_)
        · have hf := kT c20 hf
          exact hj54_18 () hf
        · have hf := kF c20 hf
          refine j_iload_n (pc := 46) X dX9_faultAt_46 rfl ?_
          refine j_if_ne (tgt := 54) (pc := 47) X dX9_faultAt_47 rfl (fun c21 => ?_) (fun c21 => ?_)
          · have hf := kF c21 hf
            exact hj54_18 () hf
          · have hf := kT c21 hf
            refine j_iconst (pc := 50) X dX9_faultAt_50 kc_1 ?_
            refine j_goto (tgt := 55) (pc := 51) X dX9_faultAt_51 rfl ?_
            exact hj55_13 _ hf
      · have hf := kF c11 hf
        refine j_iload_n (pc := 32) X dX9_faultAt_32 rfl ?_
        exact j_retW hR dX9_faultAt_33 hf
set_option maxHeartbeats 4000000 in
set_option maxRecDepth 100000 in
theorem t_X9_faultAt {g : kG} {cI cS : ClassId} {am : Nat → Nat} (X : Kx g cI cS cX9_faultAt RX9 wsX9_faultAt 4 rm_X9_faultAt) {r : Int32} {Cr : kS} (hI : kInj 11 am) (Y : Kw g (WM cI am) (kAd 11 am)) (hR : kRI g (WM cI am) 4 cX9_faultAt .int Cr r) (N : Nat) (C : kS)   (hf : f_X9_faultAt N C = some (r, Cr)) : J g (WM cI am) 4 C 0 [some (.ref (am 0)), none, none, none] [] := by
  unfold f_X9_faultAt at hf
  refine j_iconst (pc := 0) X dX9_faultAt_0 kc_0 ?_
  refine j_istore_n (pc := 1) X dX9_faultAt_1 (Nat.le_of_ble_eq_true rfl) (lv' := [some (.ref (am 0)), some (.int 0), none, none]) rfl ?_
  refine j_iconst (pc := 2) X dX9_faultAt_2 kc_0 ?_
  refine j_istore_n (pc := 3) X dX9_faultAt_3 (Nat.le_of_ble_eq_true rfl) (lv' := [some (.ref (am 0)), some (.int 0), some (.int 0), none]) rfl ?_
  refine j_iconst (pc := 4) X dX9_faultAt_4 kc_0 ?_
  refine j_istore_n (pc := 5) X dX9_faultAt_5 (Nat.le_of_ble_eq_true rfl) (lv' := [some (.ref (am 0)), some (.int 0), some (.int 0), some (.int 0)]) rfl ?_
  obtain ⟨k82_1, ek82_1, hf⟩ := jn_s hf
  have hk82_1 : ∀ (C1 : kS), k82_1 C1 = some (r, Cr) → J g (WM cI am) 4 C1 82 [some (.ref (am 0)), none, none, none] [] := by
    intro C1 hf
    have hf := jE1 ek82_1 hf
    refine j_bipush (pc := 82) X dX9_faultAt_82 kb_m14 ?_
    exact j_retW hR dX9_faultAt_84 hf
  exact lt_X9_faultAt_6 X hI Y hR N   k82_1 hk82_1 N _ _ _ _ hf
theorem c_X9_faultAt {l : Launch} {D : va_G} {cI cS : ClassId} {am : Nat → Nat} (hI : kInj 11 am) (N : Nat) (C : kS)  {r : Int32} {Cr : kS} (hf : f_X9_faultAt N C = some (r, Cr)) : mW l yX9_faultAt wsX9_faultAt rm_X9_faultAt D cI cS (WM cI am) (kAd 11 am) C [.ref (am 0)] r Cr :=
  mW.of (by decide) rfl rfl (Nat.le_of_ble_eq_true rfl) (WM_D hI) (fun g X Y hR => t_X9_faultAt X hI Y hR N C   hf)
abbrev rm_X9_fault : Room := { frames := 4, cells := 0, slots := 0, locals := 88 }
theorem lk_X9_fault_0 : Cond.fieldLink RX9 59 "BlackBarsModel" "reason" "I" ∈ wsX9_fault := List.mem_of_getElem? (i := 1) rfl
theorem iw_X9_fault_X9 : ∀ w ∈ wsX90, w ∈ wsX9_fault := fun _ h => List.mem_cons_of_mem _ (List.mem_append_right _ h)
def f_X9_fault (N : Nat) (C : kS) (a1 : Int32) : Option (Int32 × kS) := (f_X9_in N a1 0 1).bind (fun r2 => if r2 = 0 then some ((-11), C) else (f_X9_faultAt N C).bind (fun p5 => jn (fun (t6 : Int32) => some (t6, p5.2)) (fun j35_6 => jn (j35_6 p5.1) (fun j27_7 => if p5.1 = (-14) then j27_7 else if a1 = 0 then j27_7 else j35_6 (p5.2 0 5)))))
theorem hd_X9_fault : kHd yX9_fault 1 := by decide +kernel
set_option maxHeartbeats 4000000 in
set_option maxRecDepth 100000 in
theorem t_X9_fault {g : kG} {cI cS : ClassId} {am : Nat → Nat} (X : Kx g cI cS cX9_fault RX9 wsX9_fault 3 rm_X9_fault) {r : Int32} {Cr : kS} (hI : kInj 11 am) (Y : Kw g (WM cI am) (kAd 11 am)) (hR : kRI g (WM cI am) 3 cX9_fault .int Cr r) (N : Nat) (C : kS) (a1 : Int32)  (hf : f_X9_fault N C a1 = some (r, Cr)) : J g (WM cI am) 3 C 0 [some (.ref (am 0)), some (.int a1), none] [] := by
  unfold f_X9_fault at hf
  refine j_iload_n (pc := 0) X dX9_fault_0 rfl ?_
  refine j_iconst (pc := 1) X dX9_fault_1 kc_0 ?_
  refine j_iconst (pc := 2) X dX9_fault_2 kc_1 ?_
  obtain ⟨r2, h1, hf⟩ := kB hf
  refine j_callP (pc := 3) X (c_X9_in N a1 0 1 h1) gX9_fault_X9_in rfl ⟨rfl, rfl⟩ hd_X9_in ⟨(Nat.le_of_ble_eq_true rfl), (Nat.le_of_ble_eq_true rfl)⟩ rfl (Nat.le_of_ble_eq_true rfl) rfl dX9_fault_3 ?_
  refine j_if_ne (tgt := 12) (pc := 6) X dX9_fault_6 rfl (fun c3 => ?_) (fun c3 => ?_)
  · have hf := kF c3 hf
    refine j_aload_n (pc := 12) X dX9_fault_12 rfl ?_
    obtain ⟨p5, h4, hf⟩ := kB hf
    refine j_callW (pc := 13) X Y (c_X9_faultAt hI N C  h4) gX9_fault_X9_faultAt rfl ⟨rfl, rfl⟩ rfl hd_X9_faultAt ⟨(Nat.le_of_ble_eq_true rfl), (Nat.le_of_ble_eq_true rfl)⟩ wm0 rfl rfl rfl (Nat.le_of_ble_eq_true rfl) rfl dX9_fault_13 ?_
    refine j_istore_n (pc := 16) X dX9_fault_16 (Nat.le_of_ble_eq_true rfl) (lv' := [some (.ref (am 0)), some (.int a1), some (.int p5.1)]) rfl ?_
    refine j_iload_n (pc := 17) X dX9_fault_17 rfl ?_
    refine j_bipush (pc := 18) X dX9_fault_18 kb_m14 ?_
    obtain ⟨j35_6, ej35_6, hf⟩ := jn_s hf
    have hj35_6 : ∀ (t6 : Int32), j35_6 t6 = some (r, Cr) → J g (WM cI am) 3 p5.2 35 [some (.ref (am 0)), some (.int a1), some (.int p5.1)] [.int t6] := by
      intro t6 hf
      have hf := jE1 ej35_6 hf
      exact j_retW hR dX9_fault_35 hf
    obtain ⟨j27_7, ej27_7, hf⟩ := jn_s hf
    have hj27_7 : ∀ (_ : Unit), j27_7 = some (r, Cr) → J g (WM cI am) 3 p5.2 27 [some (.ref (am 0)), some (.int a1), some (.int p5.1)] [] := by
      intro _ hf
      have hf := jE0 ej27_7 hf
      refine j_iload_n (pc := 27) X dX9_fault_27 rfl ?_
      refine j_goto (tgt := 35) (pc := 28) X dX9_fault_28 rfl ?_
      exact hj35_6 _ hf
    refine j_icmp_eq (tgt := 27) (pc := 20) X dX9_fault_20 rfl (fun c9 => ?_) (fun c9 => ?_)
    · have hf := kT c9 hf
      exact hj27_7 () hf
    · have hf := kF c9 hf
      refine j_iload_n (pc := 23) X dX9_fault_23 rfl ?_
      refine j_if_ne (tgt := 31) (pc := 24) X dX9_fault_24 rfl (fun c10 => ?_) (fun c10 => ?_)
      · have hf := kF c10 hf
        refine j_aload_n (pc := 31) X dX9_fault_31 rfl ?_
        refine j_get (pc := 32) X iw_X9_fault_X9 wm0 rfl 5 (Nat.le_of_ble_eq_true rfl) lk_X9_fault_0 (v := .int (p5.2 0 5)) rfl dX9_fault_32 ?_
        exact hj35_6 _ hf
      · have hf := kT c10 hf
        exact hj27_7 () hf
  · have hf := kT c3 hf
    refine j_bipush (pc := 9) X dX9_fault_9 kb_m11 ?_
    exact j_retW hR dX9_fault_11 hf
theorem c_X9_fault {l : Launch} {D : va_G} {cI cS : ClassId} {am : Nat → Nat} (hI : kInj 11 am) (N : Nat) (C : kS) (a1 : Int32) {r : Int32} {Cr : kS} (hf : f_X9_fault N C a1 = some (r, Cr)) : mW l yX9_fault wsX9_fault rm_X9_fault D cI cS (WM cI am) (kAd 11 am) C [.ref (am 0), .int a1] r Cr :=
  mW.of (by decide) rfl rfl (Nat.le_of_ble_eq_true rfl) (WM_D hI) (fun g X Y hR => t_X9_fault X hI Y hR N C a1  hf)
abbrev rm_X9_fewest : Room := { frames := 2, cells := 0, slots := 0, locals := 43 }
theorem lk_X9_fewest_0 : Cond.fieldLink RX9 7 "BlackBarsModel" "s" "[I" ∈ wsX9_fewest := List.mem_of_getElem? (i := 1) rfl
theorem iw_X9_fewest_X9 : ∀ w ∈ wsX90, w ∈ wsX9_fewest := fun _ h => List.mem_cons_of_mem _ (List.mem_append_right _ h)
theorem lk_X9_fewest_1 : Cond.fieldLink RX9 28 "BlackBarsModel" "formOf" "[I" ∈ wsX9_fewest := List.mem_of_getElem? (i := 2) rfl
theorem lk_X9_fewest_2 : Cond.fieldLink RX9 31 "BlackBarsModel" "shown" "[I" ∈ wsX9_fewest := List.mem_of_getElem? (i := 3) rfl
def lp_X9_fewest_5 (N : Nat) (C : kS) (k60_1 : Int32 → Option (Int32)) : Nat → Int32 → Int32 → Option (Int32)
  | 0, _, _ => none
  | n + 1, x3, x4 => gIn 0 642 (if (C 1 (0 : Int32).toNatClampNeg) ≤ x4 then k60_1 x3 else gIn x4 40 (jn (fun (t8 : Int32) => jn (fun (t10 : Int32) => lp_X9_fewest_5 N C k60_1 n t10 (x4 + 1)) (fun j53_10 => if x3 ≤ t8 then j53_10 x3 else j53_10 t8)) (fun j42_8 => if 0 ≤ (C 7 x4.toNatClampNeg) then gIn x4 40 ((f_X9_namesUnder N C (C 8 x4.toNatClampNeg)).bind (fun r16 => (f_X9_bits N r16).bind (fun r18 => j42_8 r18))) else j42_8 8)))
def f_X9_fewest (N : Nat) (C : kS) : Option (Int32) := jn (fun (x1 : Int32) => some x1) (fun k60_1 => lp_X9_fewest_5 N C k60_1 N 8 0)
theorem hd_X9_fewest : kHd yX9_fewest 0 := by decide +kernel
set_option maxHeartbeats 4000000 in
set_option maxRecDepth 100000 in
theorem lt_X9_fewest_5 {g : kG} {cI cS : ClassId} {am : Nat → Nat} {C : kS} (X : Kx g cI cS cX9_fewest RX9 wsX9_fewest 4 rm_X9_fewest) {r : Int32} (hR : kRI g (WM cI am) 4 cX9_fewest .int C r) (N : Nat)   (k60_1 : Int32 → Option (Int32)) (hk60_1 : ∀ (x1 : Int32), k60_1 x1 = some r → J g (WM cI am) 4 C 60 [some (.ref (am 0)), some (.int x1), none, none] []) : ∀ (n : Nat) (x3 : Int32) (x4 : Int32), lp_X9_fewest_5 N C k60_1 n x3 x4 = some r → J g (WM cI am) 4 C 5 [some (.ref (am 0)), some (.int x3), some (.int x4), none] [] := by
  intro n
  induction n with
  | zero =>
    intro x3 x4 hf
    rw [lp_X9_fewest_5] at hf
    cases hf
  | succ n ih =>
    intro x3 x4 hf
    rw [lp_X9_fewest_5] at hf
    refine j_iload_n (pc := 5) X dX9_fewest_5 rfl ?_
    refine j_aload_n (pc := 6) X dX9_fewest_6 rfl ?_
    refine j_get (pc := 7) X iw_X9_fewest_X9 wm0 rfl 0 (Nat.le_of_ble_eq_true rfl) lk_X9_fewest_0 (v := .ref (am 1)) rfl dX9_fewest_7 ?_
    refine j_iconst (pc := 10) X dX9_fewest_10 kc_0 ?_
    obtain ⟨b5, hf⟩ := gIn_s hf
    refine j_iald (pc := 11) X wm1 b5 dX9_fewest_11 ?_
    refine j_icmp_ge (tgt := 60) (pc := 12) X dX9_fewest_12 rfl (fun c6 => ?_) (fun c6 => ?_)
    · have hf := kT c6 hf
      refine j_weak (lv' := [some (.ref (am 0)), some (.int x3), none, none]) (And.intro rfl (And.intro rfl trivial)) ?_
      exact hk60_1 _ hf
    · have hf := kF c6 hf
      refine j_aload_n (pc := 15) X dX9_fewest_15 rfl ?_
      refine j_get (pc := 16) X iw_X9_fewest_X9 wm0 rfl 10 (Nat.le_of_ble_eq_true rfl) lk_X9_fewest_1 (v := .ref (am 7)) rfl dX9_fewest_16 ?_
      refine j_iload_n (pc := 19) X dX9_fewest_19 rfl ?_
      obtain ⟨b7, hf⟩ := gIn_s hf
      refine j_iald (pc := 20) X wm7 b7 dX9_fewest_20 ?_
      obtain ⟨j42_8, ej42_8, hf⟩ := jn_s hf
      have hj42_8 : ∀ (t8 : Int32), j42_8 t8 = some r → J g (WM cI am) 4 C 42 [some (.ref (am 0)), some (.int x3), some (.int x4), none] [.int t8] := by
        intro t8 hf
        have hf := jE1 ej42_8 hf
        refine j_istore_n (pc := 42) X dX9_fewest_42 (Nat.le_of_ble_eq_true rfl) (lv' := [some (.ref (am 0)), some (.int x3), some (.int x4), some (.int t8)]) rfl ?_
        refine j_iload_n (pc := 43) X dX9_fewest_43 rfl ?_
        refine j_iload_n (pc := 44) X dX9_fewest_44 rfl ?_
        obtain ⟨j53_10, ej53_10, hf⟩ := jn_s hf
        have hj53_10 : ∀ (t10 : Int32), j53_10 t10 = some r → J g (WM cI am) 4 C 53 [some (.ref (am 0)), some (.int x3), some (.int x4), some (.int t8)] [.int t10] := by
          intro t10 hf
          have hf := jE1 ej53_10 hf
          refine j_istore_n (pc := 53) X dX9_fewest_53 (Nat.le_of_ble_eq_true rfl) (lv' := [some (.ref (am 0)), some (.int t10), some (.int x4), some (.int t8)]) rfl ?_
          refine j_iinc (pc := 54) X dX9_fewest_54 rfl (v := x4 + 1) (by rw [kc_1]) (Nat.le_of_ble_eq_true rfl) (lv' := [some (.ref (am 0)), some (.int t10), some (.int (x4 + 1)), some (.int t8)]) rfl ?_
          refine j_goto (tgt := 5) (pc := 57) X dX9_fewest_57 rfl ?_
          refine j_weak (lv' := [some (.ref (am 0)), some (.int t10), some (.int (x4 + 1)), none]) (And.intro rfl (And.intro rfl (And.intro rfl trivial))) ?_
          exact ih _ _ hf
        refine j_icmp_ge (tgt := 52) (pc := 45) X dX9_fewest_45 rfl (fun c12 => ?_) (fun c12 => ?_)
        · have hf := kT c12 hf
          refine j_iload_n (pc := 52) X dX9_fewest_52 rfl ?_
          exact hj53_10 _ hf
        · have hf := kF c12 hf
          refine j_iload_n (pc := 48) X dX9_fewest_48 rfl ?_
          refine j_goto (tgt := 53) (pc := 49) X dX9_fewest_49 rfl ?_
          exact hj53_10 _ hf
      refine j_if_ge (tgt := 29) (pc := 21) X dX9_fewest_21 rfl (fun c13 => ?_) (fun c13 => ?_)
      · have hf := kT c13 hf
        refine j_aload_n (pc := 29) X dX9_fewest_29 rfl ?_
        refine j_aload_n (pc := 30) X dX9_fewest_30 rfl ?_
        refine j_get (pc := 31) X iw_X9_fewest_X9 wm0 rfl 11 (Nat.le_of_ble_eq_true rfl) lk_X9_fewest_2 (v := .ref (am 8)) rfl dX9_fewest_31 ?_
        refine j_iload_n (pc := 34) X dX9_fewest_34 rfl ?_
        obtain ⟨b14, hf⟩ := gIn_s hf
        refine j_iald (pc := 35) X wm8 b14 dX9_fewest_35 ?_
        obtain ⟨r16, h15, hf⟩ := kB hf
        refine j_callI (pc := 36) X (c_X9_namesUnder N C (C 8 x4.toNatClampNeg) h15) gX9_fewest_X9_namesUnder rfl ⟨rfl, rfl⟩ rfl hd_X9_namesUnder ⟨(Nat.le_of_ble_eq_true rfl), (Nat.le_of_ble_eq_true rfl)⟩ wm0 rfl rfl rfl (Nat.le_of_ble_eq_true rfl) rfl dX9_fewest_36 ?_
        obtain ⟨r18, h17, hf⟩ := kB hf
        refine j_callP (pc := 39) X (c_X9_bits N r16 h17) gX9_fewest_X9_bits rfl ⟨rfl, rfl⟩ hd_X9_bits ⟨(Nat.le_of_ble_eq_true rfl), (Nat.le_of_ble_eq_true rfl)⟩ rfl (Nat.le_of_ble_eq_true rfl) rfl dX9_fewest_39 ?_
        exact hj42_8 _ hf
      · have hf := kF c13 hf
        refine j_bipush (pc := 24) X dX9_fewest_24 kb_8 ?_
        refine j_goto (tgt := 42) (pc := 26) X dX9_fewest_26 rfl ?_
        exact hj42_8 _ hf
set_option maxHeartbeats 4000000 in
set_option maxRecDepth 100000 in
theorem t_X9_fewest {g : kG} {cI cS : ClassId} {am : Nat → Nat} {C : kS} (X : Kx g cI cS cX9_fewest RX9 wsX9_fewest 4 rm_X9_fewest) {r : Int32} (hR : kRI g (WM cI am) 4 cX9_fewest .int C r) (N : Nat)   (hf : f_X9_fewest N C = some r) : J g (WM cI am) 4 C 0 [some (.ref (am 0)), none, none, none] [] := by
  unfold f_X9_fewest at hf
  refine j_bipush (pc := 0) X dX9_fewest_0 kb_8 ?_
  refine j_istore_n (pc := 2) X dX9_fewest_2 (Nat.le_of_ble_eq_true rfl) (lv' := [some (.ref (am 0)), some (.int 8), none, none]) rfl ?_
  refine j_iconst (pc := 3) X dX9_fewest_3 kc_0 ?_
  refine j_istore_n (pc := 4) X dX9_fewest_4 (Nat.le_of_ble_eq_true rfl) (lv' := [some (.ref (am 0)), some (.int 8), some (.int 0), none]) rfl ?_
  obtain ⟨k60_1, ek60_1, hf⟩ := jn_s hf
  have hk60_1 : ∀ (x1 : Int32), k60_1 x1 = some r → J g (WM cI am) 4 C 60 [some (.ref (am 0)), some (.int x1), none, none] [] := by
    intro x1 hf
    have hf := jE1 ek60_1 hf
    refine j_iload_n (pc := 60) X dX9_fewest_60 rfl ?_
    exact j_retI hR dX9_fewest_61 hf
  exact lt_X9_fewest_5 X hR N   k60_1 hk60_1 N _ _ hf
theorem c_X9_fewest {l : Launch} {D : va_G} {cI cS : ClassId} {am : Nat → Nat} (N : Nat) (C : kS)  {r : Int32} (hf : f_X9_fewest N C = some r) : mI l yX9_fewest wsX9_fewest rm_X9_fewest D cI cS (WM cI am) C [.ref (am 0)] r :=
  mI.of (by decide) rfl rfl (Nat.le_of_ble_eq_true rfl) (fun g X hR => t_X9_fewest X  hR N   hf)
abbrev rm_X9_isName : Room := { frames := 0, cells := 0, slots := 0, locals := 0 }
theorem lk_X9_isName_0 : Cond.fieldLink RX9 7 "BlackBarsModel" "s" "[I" ∈ wsX9_isName := List.mem_of_getElem? (i := 1) rfl
theorem iw_X9_isName_X9 : ∀ w ∈ wsX90, w ∈ wsX9_isName := fun _ h => List.mem_cons_of_mem _ (List.mem_append_right _ h)
def f_X9_isName (N : Nat) (C : kS) (a1 : Int32) : Option (Int32) := jn (fun (t1 : Int32) => some (t1 &&& 1)) (fun j19_1 => if a1 < 0 then j19_1 0 else gIn 1 642 (if (C 1 (1 : Int32).toNatClampNeg) ≤ a1 then j19_1 0 else j19_1 1))
theorem hd_X9_isName : kHd yX9_isName 1 := by decide +kernel
set_option maxHeartbeats 4000000 in
set_option maxRecDepth 100000 in
theorem t_X9_isName {g : kG} {cI cS : ClassId} {am : Nat → Nat} {C : kS} (X : Kx g cI cS cX9_isName RX9 wsX9_isName 2 rm_X9_isName) {r : Int32} (hR : kRI g (WM cI am) 2 cX9_isName .boolean C r) (N : Nat) (a1 : Int32)  (hf : f_X9_isName N C a1 = some r) : J g (WM cI am) 2 C 0 [some (.ref (am 0)), some (.int a1)] [] := by
  unfold f_X9_isName at hf
  refine j_iload_n (pc := 0) X dX9_isName_0 rfl ?_
  obtain ⟨j19_1, ej19_1, hf⟩ := jn_s hf
  have hj19_1 : ∀ (t1 : Int32), j19_1 t1 = some r → J g (WM cI am) 2 C 19 [some (.ref (am 0)), some (.int a1)] [.int t1] := by
    intro t1 hf
    have hf := jE1 ej19_1 hf
    exact j_retB hR dX9_isName_19 hf
  refine j_if_lt (tgt := 18) (pc := 1) X dX9_isName_1 rfl (fun c3 => ?_) (fun c3 => ?_)
  · have hf := kT c3 hf
    refine j_iconst (pc := 18) X dX9_isName_18 kc_0 ?_
    exact hj19_1 _ hf
  · have hf := kF c3 hf
    refine j_iload_n (pc := 4) X dX9_isName_4 rfl ?_
    refine j_aload_n (pc := 5) X dX9_isName_5 rfl ?_
    refine j_get (pc := 6) X iw_X9_isName_X9 wm0 rfl 0 (Nat.le_of_ble_eq_true rfl) lk_X9_isName_0 (v := .ref (am 1)) rfl dX9_isName_6 ?_
    refine j_iconst (pc := 9) X dX9_isName_9 kc_1 ?_
    obtain ⟨b4, hf⟩ := gIn_s hf
    refine j_iald (pc := 10) X wm1 b4 dX9_isName_10 ?_
    refine j_icmp_ge (tgt := 18) (pc := 11) X dX9_isName_11 rfl (fun c5 => ?_) (fun c5 => ?_)
    · have hf := kT c5 hf
      refine j_iconst (pc := 18) X dX9_isName_18 kc_0 ?_
      exact hj19_1 _ hf
    · have hf := kF c5 hf
      refine j_iconst (pc := 14) X dX9_isName_14 kc_1 ?_
      refine j_goto (tgt := 19) (pc := 15) X dX9_isName_15 rfl ?_
      exact hj19_1 _ hf
theorem c_X9_isName {l : Launch} {D : va_G} {cI cS : ClassId} {am : Nat → Nat} (N : Nat) (C : kS) (a1 : Int32) {r : Int32} (hf : f_X9_isName N C a1 = some r) : mI l yX9_isName wsX9_isName rm_X9_isName D cI cS (WM cI am) C [.ref (am 0), .int a1] r :=
  mI.of (by decide) rfl rfl (Nat.le_of_ble_eq_true rfl) (fun g X hR => t_X9_isName X  hR N a1  hf)
abbrev rm_X9_form : Room := { frames := 6, cells := 0, slots := 0, locals := 134 }
theorem lk_X9_form_0 : Cond.fieldLink RX9 7 "BlackBarsModel" "s" "[I" ∈ wsX9_form := List.mem_of_getElem? (i := 1) rfl
theorem iw_X9_form_X9 : ∀ w ∈ wsX90, w ∈ wsX9_form := fun _ h => List.mem_cons_of_mem _ (List.mem_append_right _ h)
theorem lk_X9_form_3 : Cond.fieldLink RX9 28 "BlackBarsModel" "formOf" "[I" ∈ wsX9_form := List.mem_of_getElem? (i := 4) rfl
def lp_X9_form_98 (N : Nat) (a1 : Int32) (a2 : Int32) (C11 : kS) (r13 : Int32) (k137_15 : Int32 → Option (Int32 × kS)) : Nat → Int32 → Int32 → Option (Int32 × kS)
  | 0, _, _ => none
  | n + 1, x17, x18 => gIn 0 642 (if (C11 1 (0 : Int32).toNatClampNeg) ≤ x18 then k137_15 x17 else gIn x18 40 (jn (fun (t22 : Int32) => lp_X9_form_98 N a1 a2 C11 r13 k137_15 n (x17 + t22) (x18 + 1)) (fun j128_22 => if (C11 7 x18.toNatClampNeg) = (((a1 * r13) + a2) + 1) then j128_22 1 else j128_22 0)))
theorem lk_X9_form_2 : Cond.fieldLink RX9 22 "BlackBarsModel" "barWidth" "[I" ∈ wsX9_form := List.mem_of_getElem? (i := 3) rfl
theorem lk_X9_form_1 : Cond.fieldLink RX9 19 "BlackBarsModel" "formWidth" "[I" ∈ wsX9_form := List.mem_of_getElem? (i := 2) rfl
def f_X9_form (N : Nat) (C : kS) (a1 : Int32) (a2 : Int32) (a3 : Int32) : Option (Int32 × kS) := (f_X9_isName N C a1).bind (fun r2 => if r2 = 0 then some ((-11), C) else if a2 < (-1) then some ((-11), C) else gIn 2 642 (if (C 1 (2 : Int32).toNatClampNeg) ≤ a2 then some ((-11), C) else (f_X9_in N a3 0 3).bind (fun r8 => if r8 = 0 then some ((-11), C) else (f_X9_laysNow N C).bind (fun C11 => (f_X9_each N C11).bind (fun r13 => if 3 ≤ a3 then jn (fun (x15 : Int32) => some (x15, C11)) (fun k137_15 => lp_X9_form_98 N a1 a2 C11 r13 k137_15 N 0 0) else jn (fun (t25 : Int32) => some (t25, C11)) (fun j91_25 => if a3 = 0 then (f_X9_lettersOf N C11 (((a1 * r13) + a2) + 1)).bind (fun r32 => j91_25 r32) else if a3 = 1 then gIn (((a1 * r13) + a2) + 1) 40 (j91_25 (C11 4 (((a1 * r13) + a2) + 1).toNatClampNeg)) else gIn (((a1 * r13) + a2) + 1) 40 (j91_25 (C11 5 (((a1 * r13) + a2) + 1).toNatClampNeg))))))))
theorem hd_X9_form : kHd yX9_form 3 := by decide +kernel
set_option maxHeartbeats 4000000 in
set_option maxRecDepth 100000 in
theorem lt_X9_form_98 {g : kG} {cI cS : ClassId} {am : Nat → Nat} (X : Kx g cI cS cX9_form RX9 wsX9_form 7 rm_X9_form) {r : Int32} {Cr : kS} (hI : kInj 11 am) (Y : Kw g (WM cI am) (kAd 11 am)) (hR : kRI g (WM cI am) 7 cX9_form .int Cr r) (N : Nat) (a1 : Int32) (a2 : Int32) (a3 : Int32) (C11 : kS) (r13 : Int32)  (k137_15 : Int32 → Option (Int32 × kS)) (hk137_15 : ∀ (x15 : Int32), k137_15 x15 = some (r, Cr) → J g (WM cI am) 7 C11 137 [some (.ref (am 0)), some (.int a1), some (.int a2), some (.int a3), some (.int (((a1 * r13) + a2) + 1)), some (.int x15), none] []) : ∀ (n : Nat) (x17 : Int32) (x18 : Int32), lp_X9_form_98 N a1 a2 C11 r13 k137_15 n x17 x18 = some (r, Cr) → J g (WM cI am) 7 C11 98 [some (.ref (am 0)), some (.int a1), some (.int a2), some (.int a3), some (.int (((a1 * r13) + a2) + 1)), some (.int x17), some (.int x18)] [] := by
  intro n
  induction n with
  | zero =>
    intro x17 x18 hf
    rw [lp_X9_form_98] at hf
    cases hf
  | succ n ih =>
    intro x17 x18 hf
    rw [lp_X9_form_98] at hf
    refine j_iload (pc := 98) X dX9_form_98 rfl ?_
    refine j_aload_n (pc := 100) X dX9_form_100 rfl ?_
    refine j_get (pc := 101) X iw_X9_form_X9 wm0 rfl 0 (Nat.le_of_ble_eq_true rfl) lk_X9_form_0 (v := .ref (am 1)) rfl dX9_form_101 ?_
    refine j_iconst (pc := 104) X dX9_form_104 kc_0 ?_
    obtain ⟨b19, hf⟩ := gIn_s hf
    refine j_iald (pc := 105) X wm1 b19 dX9_form_105 ?_
    refine j_icmp_ge (tgt := 137) (pc := 106) X dX9_form_106 rfl (fun c20 => ?_) (fun c20 => ?_)
    · have hf := kT c20 hf
      refine j_weak (lv' := [some (.ref (am 0)), some (.int a1), some (.int a2), some (.int a3), some (.int (((a1 * r13) + a2) + 1)), some (.int x17), none]) (And.intro rfl (And.intro rfl (And.intro rfl (And.intro rfl (And.intro rfl (And.intro rfl trivial)))))) ?_
      exact hk137_15 _ hf
    · have hf := kF c20 hf
      refine j_iload (pc := 109) X dX9_form_109 rfl ?_
      refine j_aload_n (pc := 111) X dX9_form_111 rfl ?_
      refine j_get (pc := 112) X iw_X9_form_X9 wm0 rfl 10 (Nat.le_of_ble_eq_true rfl) lk_X9_form_3 (v := .ref (am 7)) rfl dX9_form_112 ?_
      refine j_iload (pc := 115) X dX9_form_115 rfl ?_
      obtain ⟨b21, hf⟩ := gIn_s hf
      refine j_iald (pc := 117) X wm7 b21 dX9_form_117 ?_
      refine j_iload (pc := 118) X dX9_form_118 rfl ?_
      obtain ⟨j128_22, ej128_22, hf⟩ := jn_s hf
      have hj128_22 : ∀ (t22 : Int32), j128_22 t22 = some (r, Cr) → J g (WM cI am) 7 C11 128 [some (.ref (am 0)), some (.int a1), some (.int a2), some (.int a3), some (.int (((a1 * r13) + a2) + 1)), some (.int x17), some (.int x18)] [.int t22, .int x17] := by
        intro t22 hf
        have hf := jE1 ej128_22 hf
        refine j_iadd (pc := 128) X dX9_form_128 ?_
        refine j_istore (pc := 129) X dX9_form_129 (Nat.le_of_ble_eq_true rfl) (lv' := [some (.ref (am 0)), some (.int a1), some (.int a2), some (.int a3), some (.int (((a1 * r13) + a2) + 1)), some (.int (x17 + t22)), some (.int x18)]) rfl ?_
        refine j_iinc (pc := 131) X dX9_form_131 rfl (v := x18 + 1) (by rw [kc_1]) (Nat.le_of_ble_eq_true rfl) (lv' := [some (.ref (am 0)), some (.int a1), some (.int a2), some (.int a3), some (.int (((a1 * r13) + a2) + 1)), some (.int (x17 + t22)), some (.int (x18 + 1))]) rfl ?_
        refine j_goto (tgt := 98) (pc := 134) X dX9_form_134 rfl ?_
        exact ih _ _ hf
      refine j_icmp_ne (tgt := 127) (pc := 120) X dX9_form_120 rfl (fun c24 => ?_) (fun c24 => ?_)
      · have hf := kF c24 hf
        refine j_iconst (pc := 127) X dX9_form_127 kc_0 ?_
        exact hj128_22 _ hf
      · have hf := kT c24 hf
        refine j_iconst (pc := 123) X dX9_form_123 kc_1 ?_
        refine j_goto (tgt := 128) (pc := 124) X dX9_form_124 rfl ?_
        exact hj128_22 _ hf
set_option maxHeartbeats 4000000 in
set_option maxRecDepth 100000 in
theorem t_X9_form {g : kG} {cI cS : ClassId} {am : Nat → Nat} (X : Kx g cI cS cX9_form RX9 wsX9_form 7 rm_X9_form) {r : Int32} {Cr : kS} (hI : kInj 11 am) (Y : Kw g (WM cI am) (kAd 11 am)) (hR : kRI g (WM cI am) 7 cX9_form .int Cr r) (N : Nat) (C : kS) (a1 : Int32) (a2 : Int32) (a3 : Int32)  (hf : f_X9_form N C a1 a2 a3 = some (r, Cr)) : J g (WM cI am) 7 C 0 [some (.ref (am 0)), some (.int a1), some (.int a2), some (.int a3), none, none, none] [] := by
  unfold f_X9_form at hf
  refine j_aload_n (pc := 0) X dX9_form_0 rfl ?_
  refine j_iload_n (pc := 1) X dX9_form_1 rfl ?_
  obtain ⟨r2, h1, hf⟩ := kB hf
  refine j_callI (pc := 2) X (c_X9_isName N C a1 h1) gX9_form_X9_isName rfl ⟨rfl, rfl⟩ rfl hd_X9_isName ⟨(Nat.le_of_ble_eq_true rfl), (Nat.le_of_ble_eq_true rfl)⟩ wm0 rfl rfl rfl (Nat.le_of_ble_eq_true rfl) rfl dX9_form_2 ?_
  refine j_if_eq (tgt := 32) (pc := 5) X dX9_form_5 rfl (fun c3 => ?_) (fun c3 => ?_)
  · have hf := kT c3 hf
    refine j_bipush (pc := 32) X dX9_form_32 kb_m11 ?_
    exact j_retW hR dX9_form_34 hf
  · have hf := kF c3 hf
    refine j_iload_n (pc := 8) X dX9_form_8 rfl ?_
    refine j_iconst (pc := 9) X dX9_form_9 kc_m1 ?_
    refine j_icmp_lt (tgt := 32) (pc := 10) X dX9_form_10 rfl (fun c4 => ?_) (fun c4 => ?_)
    · have hf := kT c4 hf
      refine j_bipush (pc := 32) X dX9_form_32 kb_m11 ?_
      exact j_retW hR dX9_form_34 hf
    · have hf := kF c4 hf
      refine j_iload_n (pc := 13) X dX9_form_13 rfl ?_
      refine j_aload_n (pc := 14) X dX9_form_14 rfl ?_
      refine j_get (pc := 15) X iw_X9_form_X9 wm0 rfl 0 (Nat.le_of_ble_eq_true rfl) lk_X9_form_0 (v := .ref (am 1)) rfl dX9_form_15 ?_
      refine j_iconst (pc := 18) X dX9_form_18 kc_2 ?_
      obtain ⟨b5, hf⟩ := gIn_s hf
      refine j_iald (pc := 19) X wm1 b5 dX9_form_19 ?_
      refine j_icmp_ge (tgt := 32) (pc := 20) X dX9_form_20 rfl (fun c6 => ?_) (fun c6 => ?_)
      · have hf := kT c6 hf
        refine j_bipush (pc := 32) X dX9_form_32 kb_m11 ?_
        exact j_retW hR dX9_form_34 hf
      · have hf := kF c6 hf
        refine j_iload_n (pc := 23) X dX9_form_23 rfl ?_
        refine j_iconst (pc := 24) X dX9_form_24 kc_0 ?_
        refine j_iconst (pc := 25) X dX9_form_25 kc_3 ?_
        obtain ⟨r8, h7, hf⟩ := kB hf
        refine j_callP (pc := 26) X (c_X9_in N a3 0 3 h7) gX9_form_X9_in rfl ⟨rfl, rfl⟩ hd_X9_in ⟨(Nat.le_of_ble_eq_true rfl), (Nat.le_of_ble_eq_true rfl)⟩ rfl (Nat.le_of_ble_eq_true rfl) rfl dX9_form_26 ?_
        refine j_if_ne (tgt := 35) (pc := 29) X dX9_form_29 rfl (fun c9 => ?_) (fun c9 => ?_)
        · have hf := kF c9 hf
          refine j_aload_n (pc := 35) X dX9_form_35 rfl ?_
          obtain ⟨C11, h10, hf⟩ := kB hf
          refine j_callV (pc := 36) X Y (c_X9_laysNow hI N C  h10) gX9_form_X9_laysNow rfl ⟨rfl, rfl⟩ rfl hd_X9_laysNow ⟨(Nat.le_of_ble_eq_true rfl), (Nat.le_of_ble_eq_true rfl)⟩ wm0 rfl rfl rfl (Nat.le_of_ble_eq_true rfl) rfl dX9_form_36 ?_
          refine j_iload_n (pc := 39) X dX9_form_39 rfl ?_
          refine j_aload_n (pc := 40) X dX9_form_40 rfl ?_
          obtain ⟨r13, h12, hf⟩ := kB hf
          refine j_callI (pc := 41) X (c_X9_each N C11  h12) gX9_form_X9_each rfl ⟨rfl, rfl⟩ rfl hd_X9_each ⟨(Nat.le_of_ble_eq_true rfl), (Nat.le_of_ble_eq_true rfl)⟩ wm0 rfl rfl rfl (Nat.le_of_ble_eq_true rfl) rfl dX9_form_41 ?_
          refine j_imul (pc := 44) X dX9_form_44 ?_
          refine j_iload_n (pc := 45) X dX9_form_45 rfl ?_
          refine j_iadd (pc := 46) X dX9_form_46 ?_
          refine j_iconst (pc := 47) X dX9_form_47 kc_1 ?_
          refine j_iadd (pc := 48) X dX9_form_48 ?_
          refine j_istore (pc := 49) X dX9_form_49 (Nat.le_of_ble_eq_true rfl) (lv' := [some (.ref (am 0)), some (.int a1), some (.int a2), some (.int a3), some (.int (((a1 * r13) + a2) + 1)), none, none]) rfl ?_
          refine j_iload_n (pc := 51) X dX9_form_51 rfl ?_
          refine j_iconst (pc := 52) X dX9_form_52 kc_3 ?_
          refine j_icmp_ge (tgt := 92) (pc := 53) X dX9_form_53 rfl (fun c14 => ?_) (fun c14 => ?_)
          · have hf := kT c14 hf
            refine j_iconst (pc := 92) X dX9_form_92 kc_0 ?_
            refine j_istore (pc := 93) X dX9_form_93 (Nat.le_of_ble_eq_true rfl) (lv' := [some (.ref (am 0)), some (.int a1), some (.int a2), some (.int a3), some (.int (((a1 * r13) + a2) + 1)), some (.int 0), none]) rfl ?_
            refine j_iconst (pc := 95) X dX9_form_95 kc_0 ?_
            refine j_istore (pc := 96) X dX9_form_96 (Nat.le_of_ble_eq_true rfl) (lv' := [some (.ref (am 0)), some (.int a1), some (.int a2), some (.int a3), some (.int (((a1 * r13) + a2) + 1)), some (.int 0), some (.int 0)]) rfl ?_
            obtain ⟨k137_15, ek137_15, hf⟩ := jn_s hf
            have hk137_15 : ∀ (x15 : Int32), k137_15 x15 = some (r, Cr) → J g (WM cI am) 7 C11 137 [some (.ref (am 0)), some (.int a1), some (.int a2), some (.int a3), some (.int (((a1 * r13) + a2) + 1)), some (.int x15), none] [] := by
              intro x15 hf
              have hf := jE1 ek137_15 hf
              refine j_iload (pc := 137) X dX9_form_137 rfl ?_
              exact j_retW hR dX9_form_139 hf
            exact lt_X9_form_98 X hI Y hR N a1 a2 a3 C11 r13      k137_15 hk137_15 N _ _ hf
          · have hf := kF c14 hf
            refine j_iload_n (pc := 56) X dX9_form_56 rfl ?_
            obtain ⟨j91_25, ej91_25, hf⟩ := jn_s hf
            have hj91_25 : ∀ (t25 : Int32), j91_25 t25 = some (r, Cr) → J g (WM cI am) 7 C11 91 [some (.ref (am 0)), some (.int a1), some (.int a2), some (.int a3), some (.int (((a1 * r13) + a2) + 1)), none, none] [.int t25] := by
              intro t25 hf
              have hf := jE1 ej91_25 hf
              exact j_retW hR dX9_form_91 hf
            refine j_if_ne (tgt := 69) (pc := 57) X dX9_form_57 rfl (fun c27 => ?_) (fun c27 => ?_)
            · have hf := kF c27 hf
              refine j_iload_n (pc := 69) X dX9_form_69 rfl ?_
              refine j_iconst (pc := 70) X dX9_form_70 kc_1 ?_
              refine j_icmp_ne (tgt := 84) (pc := 71) X dX9_form_71 rfl (fun c28 => ?_) (fun c28 => ?_)
              · have hf := kF c28 hf
                refine j_aload_n (pc := 84) X dX9_form_84 rfl ?_
                refine j_get (pc := 85) X iw_X9_form_X9 wm0 rfl 7 (Nat.le_of_ble_eq_true rfl) lk_X9_form_2 (v := .ref (am 5)) rfl dX9_form_85 ?_
                refine j_iload (pc := 88) X dX9_form_88 rfl ?_
                obtain ⟨b29, hf⟩ := gIn_s hf
                refine j_iald (pc := 90) X wm5 b29 dX9_form_90 ?_
                exact hj91_25 _ hf
              · have hf := kT c28 hf
                refine j_aload_n (pc := 74) X dX9_form_74 rfl ?_
                refine j_get (pc := 75) X iw_X9_form_X9 wm0 rfl 6 (Nat.le_of_ble_eq_true rfl) lk_X9_form_1 (v := .ref (am 4)) rfl dX9_form_75 ?_
                refine j_iload (pc := 78) X dX9_form_78 rfl ?_
                obtain ⟨b30, hf⟩ := gIn_s hf
                refine j_iald (pc := 80) X wm4 b30 dX9_form_80 ?_
                refine j_goto (tgt := 91) (pc := 81) X dX9_form_81 rfl ?_
                exact hj91_25 _ hf
            · have hf := kT c27 hf
              refine j_aload_n (pc := 60) X dX9_form_60 rfl ?_
              refine j_iload (pc := 61) X dX9_form_61 rfl ?_
              obtain ⟨r32, h31, hf⟩ := kB hf
              refine j_callI (pc := 63) X (c_X9_lettersOf N C11 (((a1 * r13) + a2) + 1) h31) gX9_form_X9_lettersOf rfl ⟨rfl, rfl⟩ rfl hd_X9_lettersOf ⟨(Nat.le_of_ble_eq_true rfl), (Nat.le_of_ble_eq_true rfl)⟩ wm0 rfl rfl rfl (Nat.le_of_ble_eq_true rfl) rfl dX9_form_63 ?_
              refine j_goto (tgt := 91) (pc := 66) X dX9_form_66 rfl ?_
              exact hj91_25 _ hf
        · have hf := kT c9 hf
          refine j_bipush (pc := 32) X dX9_form_32 kb_m11 ?_
          exact j_retW hR dX9_form_34 hf
theorem c_X9_form {l : Launch} {D : va_G} {cI cS : ClassId} {am : Nat → Nat} (hI : kInj 11 am) (N : Nat) (C : kS) (a1 : Int32) (a2 : Int32) (a3 : Int32) {r : Int32} {Cr : kS} (hf : f_X9_form N C a1 a2 a3 = some (r, Cr)) : mW l yX9_form wsX9_form rm_X9_form D cI cS (WM cI am) (kAd 11 am) C [.ref (am 0), .int a1, .int a2, .int a3] r Cr :=
  mW.of (by decide) rfl rfl (Nat.le_of_ble_eq_true rfl) (WM_D hI) (fun g X Y hR => t_X9_form X hI Y hR N C a1 a2 a3  hf)
abbrev rm_X9_gapOf : Room := { frames := 1, cells := 0, slots := 0, locals := 20 }
theorem lk_X9_gapOf_0 : Cond.fieldLink RX9 19 "BlackBarsModel" "formWidth" "[I" ∈ wsX9_gapOf := List.mem_of_getElem? (i := 1) rfl
theorem iw_X9_gapOf_X9 : ∀ w ∈ wsX90, w ∈ wsX9_gapOf := fun _ h => List.mem_cons_of_mem _ (List.mem_append_right _ h)
theorem lk_X9_gapOf_1 : Cond.fieldLink RX9 22 "BlackBarsModel" "barWidth" "[I" ∈ wsX9_gapOf := List.mem_of_getElem? (i := 2) rfl
def lp_X9_gapOf_11 (N : Nat) (C : kS) (a1 : Int32) (a2 : Int32) (k71_3 : Int32 → Option (Int32)) : Nat → Int32 → Int32 → Option (Int32)
  | 0, _, _ => none
  | n + 1, x5, x6 => (f_X9_each N C).bind (fun r8 => if ((a1 + 1) * r8) ≤ x6 then k71_3 x5 else gIn x6 40 (gIn x6 40 (jn (fun (t12 : Int32) => lp_X9_gapOf_11 N C a1 a2 k71_3 n t12 (x6 + 1)) (fun j64_12 => jn (j64_12 x5) (fun j63_13 => if (C 5 x6.toNatClampNeg) = a2 then jn (j64_12 (a2 - (C 4 x6.toNatClampNeg))) (fun j58_15 => if x5 = (-14) then j58_15 else if x5 ≤ (a2 - (C 4 x6.toNatClampNeg)) then j63_13 else j58_15) else j63_13)))))
def f_X9_gapOf (N : Nat) (C : kS) (a1 : Int32) (a2 : Int32) : Option (Int32) := (f_X9_each N C).bind (fun r2 => jn (fun (x3 : Int32) => some x3) (fun k71_3 => lp_X9_gapOf_11 N C a1 a2 k71_3 N (-14) (a1 * r2)))
theorem hd_X9_gapOf : kHd yX9_gapOf 2 := by decide +kernel
set_option maxHeartbeats 4000000 in
set_option maxRecDepth 100000 in
theorem lt_X9_gapOf_11 {g : kG} {cI cS : ClassId} {am : Nat → Nat} {C : kS} (X : Kx g cI cS cX9_gapOf RX9 wsX9_gapOf 6 rm_X9_gapOf) {r : Int32} (hR : kRI g (WM cI am) 6 cX9_gapOf .int C r) (N : Nat) (a1 : Int32) (a2 : Int32)  (k71_3 : Int32 → Option (Int32)) (hk71_3 : ∀ (x3 : Int32), k71_3 x3 = some r → J g (WM cI am) 6 C 71 [some (.ref (am 0)), some (.int a1), some (.int a2), some (.int x3), none, none] []) : ∀ (n : Nat) (x5 : Int32) (x6 : Int32), lp_X9_gapOf_11 N C a1 a2 k71_3 n x5 x6 = some r → J g (WM cI am) 6 C 11 [some (.ref (am 0)), some (.int a1), some (.int a2), some (.int x5), some (.int x6), none] [] := by
  intro n
  induction n with
  | zero =>
    intro x5 x6 hf
    rw [lp_X9_gapOf_11] at hf
    cases hf
  | succ n ih =>
    intro x5 x6 hf
    rw [lp_X9_gapOf_11] at hf
    refine j_iload (pc := 11) X dX9_gapOf_11 rfl ?_
    refine j_iload_n (pc := 13) X dX9_gapOf_13 rfl ?_
    refine j_iconst (pc := 14) X dX9_gapOf_14 kc_1 ?_
    refine j_iadd (pc := 15) X dX9_gapOf_15 ?_
    refine j_aload_n (pc := 16) X dX9_gapOf_16 rfl ?_
    obtain ⟨r8, h7, hf⟩ := kB hf
    refine j_callI (pc := 17) X (c_X9_each N C  h7) gX9_gapOf_X9_each rfl ⟨rfl, rfl⟩ rfl hd_X9_each ⟨(Nat.le_of_ble_eq_true rfl), (Nat.le_of_ble_eq_true rfl)⟩ wm0 rfl rfl rfl (Nat.le_of_ble_eq_true rfl) rfl dX9_gapOf_17 ?_
    refine j_imul (pc := 20) X dX9_gapOf_20 ?_
    refine j_icmp_ge (tgt := 71) (pc := 21) X dX9_gapOf_21 rfl (fun c9 => ?_) (fun c9 => ?_)
    · have hf := kT c9 hf
      refine j_weak (lv' := [some (.ref (am 0)), some (.int a1), some (.int a2), some (.int x5), none, none]) (And.intro rfl (And.intro rfl (And.intro rfl (And.intro rfl trivial)))) ?_
      exact hk71_3 _ hf
    · have hf := kF c9 hf
      refine j_iload_n (pc := 24) X dX9_gapOf_24 rfl ?_
      refine j_aload_n (pc := 25) X dX9_gapOf_25 rfl ?_
      refine j_get (pc := 26) X iw_X9_gapOf_X9 wm0 rfl 6 (Nat.le_of_ble_eq_true rfl) lk_X9_gapOf_0 (v := .ref (am 4)) rfl dX9_gapOf_26 ?_
      refine j_iload (pc := 29) X dX9_gapOf_29 rfl ?_
      obtain ⟨b10, hf⟩ := gIn_s hf
      refine j_iald (pc := 31) X wm4 b10 dX9_gapOf_31 ?_
      refine j_isub (pc := 32) X dX9_gapOf_32 ?_
      refine j_istore (pc := 33) X dX9_gapOf_33 (Nat.le_of_ble_eq_true rfl) (lv' := [some (.ref (am 0)), some (.int a1), some (.int a2), some (.int x5), some (.int x6), some (.int (a2 - (C 4 x6.toNatClampNeg)))]) rfl ?_
      refine j_aload_n (pc := 35) X dX9_gapOf_35 rfl ?_
      refine j_get (pc := 36) X iw_X9_gapOf_X9 wm0 rfl 7 (Nat.le_of_ble_eq_true rfl) lk_X9_gapOf_1 (v := .ref (am 5)) rfl dX9_gapOf_36 ?_
      refine j_iload (pc := 39) X dX9_gapOf_39 rfl ?_
      obtain ⟨b11, hf⟩ := gIn_s hf
      refine j_iald (pc := 41) X wm5 b11 dX9_gapOf_41 ?_
      refine j_iload_n (pc := 42) X dX9_gapOf_42 rfl ?_
      obtain ⟨j64_12, ej64_12, hf⟩ := jn_s hf
      have hj64_12 : ∀ (t12 : Int32), j64_12 t12 = some r → J g (WM cI am) 6 C 64 [some (.ref (am 0)), some (.int a1), some (.int a2), some (.int x5), some (.int x6), some (.int (a2 - (C 4 x6.toNatClampNeg)))] [.int t12] := by
        intro t12 hf
        have hf := jE1 ej64_12 hf
        refine j_istore_n (pc := 64) X dX9_gapOf_64 (Nat.le_of_ble_eq_true rfl) (lv' := [some (.ref (am 0)), some (.int a1), some (.int a2), some (.int t12), some (.int x6), some (.int (a2 - (C 4 x6.toNatClampNeg)))]) rfl ?_
        refine j_iinc (pc := 65) X dX9_gapOf_65 rfl (v := x6 + 1) (by rw [kc_1]) (Nat.le_of_ble_eq_true rfl) (lv' := [some (.ref (am 0)), some (.int a1), some (.int a2), some (.int t12), some (.int (x6 + 1)), some (.int (a2 - (C 4 x6.toNatClampNeg)))]) rfl ?_
        refine j_goto (tgt := 11) (pc := 68) X dX9_gapOf_68 rfl ?_
        refine j_weak (lv' := [some (.ref (am 0)), some (.int a1), some (.int a2), some (.int t12), some (.int (x6 + 1)), none]) (And.intro rfl (And.intro rfl (And.intro rfl (And.intro rfl (And.intro rfl trivial))))) ?_
        exact ih _ _ hf
      obtain ⟨j63_13, ej63_13, hf⟩ := jn_s hf
      have hj63_13 : ∀ (_ : Unit), j63_13 = some r → J g (WM cI am) 6 C 63 [some (.ref (am 0)), some (.int a1), some (.int a2), some (.int x5), some (.int x6), some (.int (a2 - (C 4 x6.toNatClampNeg)))] [] := by
        intro _ hf
        have hf := jE0 ej63_13 hf
        refine j_iload_n (pc := 63) X dX9_gapOf_63 rfl ?_
        exact hj64_12 _ hf
      refine j_icmp_ne (tgt := 63) (pc := 43) X dX9_gapOf_43 rfl (fun c15 => ?_) (fun c15 => ?_)
      · have hf := kF c15 hf
        exact hj63_13 () hf
      · have hf := kT c15 hf
        refine j_iload_n (pc := 46) X dX9_gapOf_46 rfl ?_
        refine j_bipush (pc := 47) X dX9_gapOf_47 kb_m14 ?_
        obtain ⟨j58_15, ej58_15, hf⟩ := jn_s hf
        have hj58_15 : ∀ (_ : Unit), j58_15 = some r → J g (WM cI am) 6 C 58 [some (.ref (am 0)), some (.int a1), some (.int a2), some (.int x5), some (.int x6), some (.int (a2 - (C 4 x6.toNatClampNeg)))] [] := by
          intro _ hf
          have hf := jE0 ej58_15 hf
          refine j_iload (pc := 58) X dX9_gapOf_58 rfl ?_
          refine j_goto (tgt := 64) (pc := 60) X dX9_gapOf_60 rfl ?_
          exact hj64_12 _ hf
        refine j_icmp_eq (tgt := 58) (pc := 49) X dX9_gapOf_49 rfl (fun c17 => ?_) (fun c17 => ?_)
        · have hf := kT c17 hf
          exact hj58_15 () hf
        · have hf := kF c17 hf
          refine j_iload (pc := 52) X dX9_gapOf_52 rfl ?_
          refine j_iload_n (pc := 54) X dX9_gapOf_54 rfl ?_
          refine j_icmp_ge (tgt := 63) (pc := 55) X dX9_gapOf_55 rfl (fun c18 => ?_) (fun c18 => ?_)
          · have hf := kT c18 hf
            exact hj63_13 () hf
          · have hf := kF c18 hf
            exact hj58_15 () hf
set_option maxHeartbeats 4000000 in
set_option maxRecDepth 100000 in
theorem t_X9_gapOf {g : kG} {cI cS : ClassId} {am : Nat → Nat} {C : kS} (X : Kx g cI cS cX9_gapOf RX9 wsX9_gapOf 6 rm_X9_gapOf) {r : Int32} (hR : kRI g (WM cI am) 6 cX9_gapOf .int C r) (N : Nat) (a1 : Int32) (a2 : Int32)  (hf : f_X9_gapOf N C a1 a2 = some r) : J g (WM cI am) 6 C 0 [some (.ref (am 0)), some (.int a1), some (.int a2), none, none, none] [] := by
  unfold f_X9_gapOf at hf
  refine j_bipush (pc := 0) X dX9_gapOf_0 kb_m14 ?_
  refine j_istore_n (pc := 2) X dX9_gapOf_2 (Nat.le_of_ble_eq_true rfl) (lv' := [some (.ref (am 0)), some (.int a1), some (.int a2), some (.int (-14)), none, none]) rfl ?_
  refine j_iload_n (pc := 3) X dX9_gapOf_3 rfl ?_
  refine j_aload_n (pc := 4) X dX9_gapOf_4 rfl ?_
  obtain ⟨r2, h1, hf⟩ := kB hf
  refine j_callI (pc := 5) X (c_X9_each N C  h1) gX9_gapOf_X9_each rfl ⟨rfl, rfl⟩ rfl hd_X9_each ⟨(Nat.le_of_ble_eq_true rfl), (Nat.le_of_ble_eq_true rfl)⟩ wm0 rfl rfl rfl (Nat.le_of_ble_eq_true rfl) rfl dX9_gapOf_5 ?_
  refine j_imul (pc := 8) X dX9_gapOf_8 ?_
  refine j_istore (pc := 9) X dX9_gapOf_9 (Nat.le_of_ble_eq_true rfl) (lv' := [some (.ref (am 0)), some (.int a1), some (.int a2), some (.int (-14)), some (.int (a1 * r2)), none]) rfl ?_
  obtain ⟨k71_3, ek71_3, hf⟩ := jn_s hf
  have hk71_3 : ∀ (x3 : Int32), k71_3 x3 = some r → J g (WM cI am) 6 C 71 [some (.ref (am 0)), some (.int a1), some (.int a2), some (.int x3), none, none] [] := by
    intro x3 hf
    have hf := jE1 ek71_3 hf
    refine j_iload_n (pc := 71) X dX9_gapOf_71 rfl ?_
    exact j_retI hR dX9_gapOf_72 hf
  exact lt_X9_gapOf_11 X hR N a1 a2    k71_3 hk71_3 N _ _ hf
theorem c_X9_gapOf {l : Launch} {D : va_G} {cI cS : ClassId} {am : Nat → Nat} (N : Nat) (C : kS) (a1 : Int32) (a2 : Int32) {r : Int32} (hf : f_X9_gapOf N C a1 a2 = some r) : mI l yX9_gapOf wsX9_gapOf rm_X9_gapOf D cI cS (WM cI am) C [.ref (am 0), .int a1, .int a2] r :=
  mI.of (by decide) rfl rfl (Nat.le_of_ble_eq_true rfl) (fun g X hR => t_X9_gapOf X  hR N a1 a2  hf)
abbrev rm_X9_isWord : Room := { frames := 0, cells := 0, slots := 0, locals := 0 }
theorem lk_X9_isWord_0 : Cond.fieldLink RX9 7 "BlackBarsModel" "s" "[I" ∈ wsX9_isWord := List.mem_of_getElem? (i := 1) rfl
theorem iw_X9_isWord_X9 : ∀ w ∈ wsX90, w ∈ wsX9_isWord := fun _ h => List.mem_cons_of_mem _ (List.mem_append_right _ h)
def f_X9_isWord (N : Nat) (C : kS) (a1 : Int32) : Option (Int32) := jn (fun (t1 : Int32) => some (t1 &&& 1)) (fun j19_1 => if a1 < 0 then j19_1 0 else gIn 0 642 (if (C 1 (0 : Int32).toNatClampNeg) ≤ a1 then j19_1 0 else j19_1 1))
theorem hd_X9_isWord : kHd yX9_isWord 1 := by decide +kernel
set_option maxHeartbeats 4000000 in
set_option maxRecDepth 100000 in
theorem t_X9_isWord {g : kG} {cI cS : ClassId} {am : Nat → Nat} {C : kS} (X : Kx g cI cS cX9_isWord RX9 wsX9_isWord 2 rm_X9_isWord) {r : Int32} (hR : kRI g (WM cI am) 2 cX9_isWord .boolean C r) (N : Nat) (a1 : Int32)  (hf : f_X9_isWord N C a1 = some r) : J g (WM cI am) 2 C 0 [some (.ref (am 0)), some (.int a1)] [] := by
  unfold f_X9_isWord at hf
  refine j_iload_n (pc := 0) X dX9_isWord_0 rfl ?_
  obtain ⟨j19_1, ej19_1, hf⟩ := jn_s hf
  have hj19_1 : ∀ (t1 : Int32), j19_1 t1 = some r → J g (WM cI am) 2 C 19 [some (.ref (am 0)), some (.int a1)] [.int t1] := by
    intro t1 hf
    have hf := jE1 ej19_1 hf
    exact j_retB hR dX9_isWord_19 hf
  refine j_if_lt (tgt := 18) (pc := 1) X dX9_isWord_1 rfl (fun c3 => ?_) (fun c3 => ?_)
  · have hf := kT c3 hf
    refine j_iconst (pc := 18) X dX9_isWord_18 kc_0 ?_
    exact hj19_1 _ hf
  · have hf := kF c3 hf
    refine j_iload_n (pc := 4) X dX9_isWord_4 rfl ?_
    refine j_aload_n (pc := 5) X dX9_isWord_5 rfl ?_
    refine j_get (pc := 6) X iw_X9_isWord_X9 wm0 rfl 0 (Nat.le_of_ble_eq_true rfl) lk_X9_isWord_0 (v := .ref (am 1)) rfl dX9_isWord_6 ?_
    refine j_iconst (pc := 9) X dX9_isWord_9 kc_0 ?_
    obtain ⟨b4, hf⟩ := gIn_s hf
    refine j_iald (pc := 10) X wm1 b4 dX9_isWord_10 ?_
    refine j_icmp_ge (tgt := 18) (pc := 11) X dX9_isWord_11 rfl (fun c5 => ?_) (fun c5 => ?_)
    · have hf := kT c5 hf
      refine j_iconst (pc := 18) X dX9_isWord_18 kc_0 ?_
      exact hj19_1 _ hf
    · have hf := kF c5 hf
      refine j_iconst (pc := 14) X dX9_isWord_14 kc_1 ?_
      refine j_goto (tgt := 19) (pc := 15) X dX9_isWord_15 rfl ?_
      exact hj19_1 _ hf
theorem c_X9_isWord {l : Launch} {D : va_G} {cI cS : ClassId} {am : Nat → Nat} (N : Nat) (C : kS) (a1 : Int32) {r : Int32} (hf : f_X9_isWord N C a1 = some r) : mI l yX9_isWord wsX9_isWord rm_X9_isWord D cI cS (WM cI am) C [.ref (am 0), .int a1] r :=
  mI.of (by decide) rfl rfl (Nat.le_of_ble_eq_true rfl) (fun g X hR => t_X9_isWord X  hR N a1  hf)
