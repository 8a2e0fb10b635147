abbrev rm_X8_guess : Room := { frames := 4, cells := 0, slots := 0, locals := 94 }
theorem lk_X8_guess_0 : Cond.fieldLink RX8 19 "BlackBars" "state" "LBlackBars$State;" ∈ wsX8_guess := List.mem_of_getElem? (i := 1) rfl
theorem iw_X8_guess_X8 : ∀ w ∈ wsX80, w ∈ wsX8_guess := fun _ h => List.mem_cons_of_mem _ (List.mem_append_left _ (List.mem_append_left _ (List.mem_append_left _ (List.mem_append_left _ (List.mem_append_left _ (List.mem_append_left _ (List.mem_append_right _ h)))))))
theorem iw_X8_guess_X5 : ∀ w ∈ wsX50, w ∈ wsX8_guess := fun _ h => List.mem_cons_of_mem _ (List.mem_append_left _ (List.mem_append_left _ (List.mem_append_left _ (List.mem_append_left _ (List.mem_append_left _ (List.mem_append_right _ h))))))
theorem lk_X8_guess_1 : Cond.fieldLink RX8 54 "BlackBars" "sheet" "LBlackBars$Sheet;" ∈ wsX8_guess := List.mem_of_getElem? (i := 2) rfl
theorem lk_X8_guess_2 : Cond.fieldLink RX8 42 "BlackBars" "bars" "LBlackBars$Bars;" ∈ wsX8_guess := List.mem_of_getElem? (i := 3) rfl
def lp_X8_guess_57 (N : Nat) (C : kS) (a2 : Int32) (a3 : Int32) (r11 : Int32) (k123_11 : Option (Int32)) : Nat → Int32 → Option (Int32)
  | 0, _ => none
  | n + 1, x13 => (f_X7_size N C 10).bind (fun r15 => if r15 ≤ x13 then k123_11 else (f_X0_leastGap N C 113 x13 r11).bind (fun r18 => jn (lp_X8_guess_57 N C a2 a3 r11 k123_11 n (x13 + 1)) (fun j117_18 => if r18 = (-1) then j117_18 else (f_X8_guessesAheadOf N C x13 r18 r11).bind (fun r22 => if r22 = a2 then jn (fun (t24 : Int32) => some t24) (fun j116_24 => if a3 = 0 then j116_24 x13 else j116_24 r18) else j117_18))))
def f_X8_guess (N : Nat) (C : kS) (a1 : Int32) (a2 : Int32) (a3 : Int32) : Option (Int32) := (f_X7_has N C 5 a1).bind (fun r2 => if r2 = 0 then some (-11) else if a2 < 0 then some (-11) else if a3 < 0 then some (-11) else if a3 ≤ 1 then (f_X4_isHidden N C a1).bind (fun r8 => if r8 = 0 then some (-12) else (f_X4_shownWidthOf N C a1).bind (fun r11 => jn (some (-14)) (fun k123_11 => lp_X8_guess_57 N C a2 a3 r11 k123_11 N 0))) else some (-11))
theorem hd_X8_guess : kHd yX8_guess 3 := by decide +kernel
set_option maxHeartbeats 4000000 in
set_option maxRecDepth 100000 in
theorem lt_X8_guess_57 {g : kG} {cI cS : ClassId} {ad : Nat → Nat} {C : kS} (X : Kx g cI cS cX8_guess RX8 wsX8_guess 7 rm_X8_guess) {r : Int32} (hR : kRI g (WC cI cS ad) 7 cX8_guess .int C r) (N : Nat) (a1 : Int32) (a2 : Int32) (a3 : Int32) (r11 : Int32)  (k123_11 : Option (Int32)) (hk123_11 : ∀ (_ : Unit), k123_11 = some r → J g (WC cI cS ad) 7 C 123 [some (.ref (ad 0)), some (.int a1), some (.int a2), some (.int a3), some (.int r11), none, none] []) : ∀ (n : Nat) (x13 : Int32), lp_X8_guess_57 N C a2 a3 r11 k123_11 n x13 = some r → J g (WC cI cS ad) 7 C 57 [some (.ref (ad 0)), some (.int a1), some (.int a2), some (.int a3), some (.int r11), some (.int x13), none] [] := by
  intro n
  induction n with
  | zero =>
    intro x13 hf
    rw [lp_X8_guess_57] at hf
    cases hf
  | succ n ih =>
    intro x13 hf
    rw [lp_X8_guess_57] at hf
    refine j_iload (pc := 57) X dX8_guess_57 rfl ?_
    refine j_aload_n (pc := 59) X dX8_guess_59 rfl ?_
    refine j_get (pc := 60) X iw_X8_guess_X8 (wc8 kd_0) rfl 1 (Nat.le_of_ble_eq_true rfl) lk_X8_guess_0 (v := .ref (ad 4)) rfl dX8_guess_60 ?_
    refine j_getN (pc := 63) X iw_X8_guess_X5 (wc5 kd_4) rfl 1 (Nat.le_of_ble_eq_true rfl) (List.mem_of_getElem? (i := 4) rfl) (v := .ref (ad 10)) rfl dX8_guess_63 ?_
    obtain ⟨r15, h14, hf⟩ := kB hf
    refine j_callI (pc := 66) X (c_X7_size N C 10 (kd5_6 kd_4 : kd 10 = 7) h14) gX8_guess_X7_size rfl ⟨rfl, rfl⟩ rfl hd_X7_size ⟨(Nat.le_of_ble_eq_true rfl), (Nat.le_of_ble_eq_true rfl)⟩ (wc7 (kd5_6 kd_4 : kd 10 = 7)) rfl rfl rfl (Nat.le_of_ble_eq_true rfl) rfl dX8_guess_66 ?_
    refine j_icmp_ge (tgt := 123) (pc := 69) X dX8_guess_69 rfl (fun c16 => ?_) (fun c16 => ?_)
    · have hf := kT c16 hf
      refine j_weak (lv' := [some (.ref (ad 0)), some (.int a1), some (.int a2), some (.int a3), some (.int r11), none, none]) (And.intro rfl (And.intro rfl (And.intro rfl (And.intro rfl (And.intro rfl trivial))))) ?_
      exact hk123_11 () hf
    · have hf := kF c16 hf
      refine j_aload_n (pc := 72) X dX8_guess_72 rfl ?_
      refine j_get (pc := 73) X iw_X8_guess_X8 (wc8 kd_0) rfl 4 (Nat.le_of_ble_eq_true rfl) lk_X8_guess_2 (v := .ref (ad 113)) rfl dX8_guess_73 ?_
      refine j_iload (pc := 76) X dX8_guess_76 rfl ?_
      refine j_iload (pc := 78) X dX8_guess_78 rfl ?_
      obtain ⟨r18, h17, hf⟩ := kB hf
      refine j_callI (pc := 80) X (c_X0_leastGap N C 113 kd_113 x13 r11 h17) gX8_guess_X0_leastGap rfl ⟨rfl, rfl⟩ rfl hd_X0_leastGap ⟨(Nat.le_of_ble_eq_true rfl), (Nat.le_of_ble_eq_true rfl)⟩ (wc0 kd_113) rfl rfl rfl (Nat.le_of_ble_eq_true rfl) rfl dX8_guess_80 ?_
      refine j_istore (pc := 83) X dX8_guess_83 (Nat.le_of_ble_eq_true rfl) (lv' := [some (.ref (ad 0)), some (.int a1), some (.int a2), some (.int a3), some (.int r11), some (.int x13), some (.int r18)]) rfl ?_
      refine j_iload (pc := 85) X dX8_guess_85 rfl ?_
      refine j_iconst (pc := 87) X dX8_guess_87 kc_m1 ?_
      obtain ⟨j117_18, ej117_18, hf⟩ := jn_s hf
      have hj117_18 : ∀ (_ : Unit), j117_18 = some r → J g (WC cI cS ad) 7 C 117 [some (.ref (ad 0)), some (.int a1), some (.int a2), some (.int a3), some (.int r11), some (.int x13), some (.int r18)] [] := by
        intro _ hf
        have hf := jE0 ej117_18 hf
        refine j_iinc (pc := 117) X dX8_guess_117 rfl (v := x13 + 1) (by rw [kc_1]) (Nat.le_of_ble_eq_true rfl) (lv' := [some (.ref (ad 0)), some (.int a1), some (.int a2), some (.int a3), some (.int r11), some (.int (x13 + 1)), some (.int r18)]) rfl ?_
        refine j_goto (tgt := 57) (pc := 120) X dX8_guess_120 rfl ?_
        refine j_weak (lv' := [some (.ref (ad 0)), some (.int a1), some (.int a2), some (.int a3), some (.int r11), some (.int (x13 + 1)), none]) (And.intro rfl (And.intro rfl (And.intro rfl (And.intro rfl (And.intro rfl (And.intro rfl trivial)))))) ?_
        exact ih _ hf
      refine j_icmp_eq (tgt := 117) (pc := 88) X dX8_guess_88 rfl (fun c20 => ?_) (fun c20 => ?_)
      · have hf := kT c20 hf
        exact hj117_18 () hf
      · have hf := kF c20 hf
        refine j_aload_n (pc := 91) X dX8_guess_91 rfl ?_
        refine j_iload (pc := 92) X dX8_guess_92 rfl ?_
        refine j_iload (pc := 94) X dX8_guess_94 rfl ?_
        refine j_iload (pc := 96) X dX8_guess_96 rfl ?_
        obtain ⟨r22, h21, hf⟩ := kB hf
        refine j_callI (pc := 98) X (c_X8_guessesAheadOf N C x13 r18 r11 h21) gX8_guess_X8_guessesAheadOf rfl ⟨rfl, rfl⟩ rfl hd_X8_guessesAheadOf ⟨(Nat.le_of_ble_eq_true rfl), (Nat.le_of_ble_eq_true rfl)⟩ (wc8 kd_0) rfl rfl rfl (Nat.le_of_ble_eq_true rfl) rfl dX8_guess_98 ?_
        refine j_iload_n (pc := 101) X dX8_guess_101 rfl ?_
        refine j_icmp_ne (tgt := 117) (pc := 102) X dX8_guess_102 rfl (fun c23 => ?_) (fun c23 => ?_)
        · have hf := kF c23 hf
          exact hj117_18 () hf
        · have hf := kT c23 hf
          refine j_iload_n (pc := 105) X dX8_guess_105 rfl ?_
          obtain ⟨j116_24, ej116_24, hf⟩ := jn_s hf
          have hj116_24 : ∀ (t24 : Int32), j116_24 t24 = some r → J g (WC cI cS ad) 7 C 116 [some (.ref (ad 0)), some (.int a1), some (.int a2), some (.int a3), some (.int r11), some (.int x13), some (.int r18)] [.int t24] := by
            intro t24 hf
            have hf := jE1 ej116_24 hf
            exact j_retI hR dX8_guess_116 hf
          refine j_if_ne (tgt := 114) (pc := 106) X dX8_guess_106 rfl (fun c26 => ?_) (fun c26 => ?_)
          · have hf := kF c26 hf
            refine j_iload (pc := 114) X dX8_guess_114 rfl ?_
            exact hj116_24 _ hf
          · have hf := kT c26 hf
            refine j_iload (pc := 109) X dX8_guess_109 rfl ?_
            refine j_goto (tgt := 116) (pc := 111) X dX8_guess_111 rfl ?_
            exact hj116_24 _ hf
set_option maxHeartbeats 4000000 in
set_option maxRecDepth 100000 in
theorem t_X8_guess {g : kG} {cI cS : ClassId} {ad : Nat → Nat} {C : kS} (X : Kx g cI cS cX8_guess RX8 wsX8_guess 7 rm_X8_guess) {r : Int32} (hR : kRI g (WC cI cS ad) 7 cX8_guess .int C r) (N : Nat) (a1 : Int32) (a2 : Int32) (a3 : Int32)  (hf : f_X8_guess N C a1 a2 a3 = some r) : J g (WC cI cS ad) 7 C 0 [some (.ref (ad 0)), some (.int a1), some (.int a2), some (.int a3), none, none, none] [] := by
  unfold f_X8_guess at hf
  refine j_aload_n (pc := 0) X dX8_guess_0 rfl ?_
  refine j_get (pc := 1) X iw_X8_guess_X8 (wc8 kd_0) rfl 1 (Nat.le_of_ble_eq_true rfl) lk_X8_guess_0 (v := .ref (ad 4)) rfl dX8_guess_1 ?_
  refine j_getN (pc := 4) X iw_X8_guess_X5 (wc5 kd_4) rfl 0 (Nat.le_of_ble_eq_true rfl) (List.mem_of_getElem? (i := 3) rfl) (v := .ref (ad 5)) rfl dX8_guess_4 ?_
  refine j_iload_n (pc := 7) X dX8_guess_7 rfl ?_
  obtain ⟨r2, h1, hf⟩ := kB hf
  refine j_callI (pc := 8) X (c_X7_has N C 5 (kd5_1 kd_4 : kd 5 = 7) a1 h1) gX8_guess_X7_has rfl ⟨rfl, rfl⟩ rfl hd_X7_has ⟨(Nat.le_of_ble_eq_true rfl), (Nat.le_of_ble_eq_true rfl)⟩ (wc7 (kd5_1 kd_4 : kd 5 = 7)) rfl rfl rfl (Nat.le_of_ble_eq_true rfl) rfl dX8_guess_8 ?_
  refine j_if_eq (tgt := 27) (pc := 11) X dX8_guess_11 rfl (fun c3 => ?_) (fun c3 => ?_)
  · have hf := kT c3 hf
    refine j_bipush (pc := 27) X dX8_guess_27 kb_m11 ?_
    exact j_retI hR dX8_guess_29 hf
  · have hf := kF c3 hf
    refine j_iload_n (pc := 14) X dX8_guess_14 rfl ?_
    refine j_if_lt (tgt := 27) (pc := 15) X dX8_guess_15 rfl (fun c4 => ?_) (fun c4 => ?_)
    · have hf := kT c4 hf
      refine j_bipush (pc := 27) X dX8_guess_27 kb_m11 ?_
      exact j_retI hR dX8_guess_29 hf
    · have hf := kF c4 hf
      refine j_iload_n (pc := 18) X dX8_guess_18 rfl ?_
      refine j_if_lt (tgt := 27) (pc := 19) X dX8_guess_19 rfl (fun c5 => ?_) (fun c5 => ?_)
      · have hf := kT c5 hf
        refine j_bipush (pc := 27) X dX8_guess_27 kb_m11 ?_
        exact j_retI hR dX8_guess_29 hf
      · have hf := kF c5 hf
        refine j_iload_n (pc := 22) X dX8_guess_22 rfl ?_
        refine j_iconst (pc := 23) X dX8_guess_23 kc_1 ?_
        refine j_icmp_le (tgt := 30) (pc := 24) X dX8_guess_24 rfl (fun c6 => ?_) (fun c6 => ?_)
        · have hf := kT c6 hf
          refine j_aload_n (pc := 30) X dX8_guess_30 rfl ?_
          refine j_get (pc := 31) X iw_X8_guess_X8 (wc8 kd_0) rfl 6 (Nat.le_of_ble_eq_true rfl) lk_X8_guess_1 (v := .ref (ad 119)) rfl dX8_guess_31 ?_
          refine j_iload_n (pc := 34) X dX8_guess_34 rfl ?_
          obtain ⟨r8, h7, hf⟩ := kB hf
          refine j_callI (pc := 35) X (c_X4_isHidden N C a1 h7) gX8_guess_X4_isHidden rfl ⟨rfl, rfl⟩ rfl hd_X4_isHidden ⟨(Nat.le_of_ble_eq_true rfl), (Nat.le_of_ble_eq_true rfl)⟩ (wc4 kd_119) rfl rfl rfl (Nat.le_of_ble_eq_true rfl) rfl dX8_guess_35 ?_
          refine j_if_ne (tgt := 44) (pc := 38) X dX8_guess_38 rfl (fun c9 => ?_) (fun c9 => ?_)
          · have hf := kF c9 hf
            refine j_aload_n (pc := 44) X dX8_guess_44 rfl ?_
            refine j_get (pc := 45) X iw_X8_guess_X8 (wc8 kd_0) rfl 6 (Nat.le_of_ble_eq_true rfl) lk_X8_guess_1 (v := .ref (ad 119)) rfl dX8_guess_45 ?_
            refine j_iload_n (pc := 48) X dX8_guess_48 rfl ?_
            obtain ⟨r11, h10, hf⟩ := kB hf
            refine j_callI (pc := 49) X (c_X4_shownWidthOf N C a1 h10) gX8_guess_X4_shownWidthOf rfl ⟨rfl, rfl⟩ rfl hd_X4_shownWidthOf ⟨(Nat.le_of_ble_eq_true rfl), (Nat.le_of_ble_eq_true rfl)⟩ (wc4 kd_119) rfl rfl rfl (Nat.le_of_ble_eq_true rfl) rfl dX8_guess_49 ?_
            refine j_istore (pc := 52) X dX8_guess_52 (Nat.le_of_ble_eq_true rfl) (lv' := [some (.ref (ad 0)), some (.int a1), some (.int a2), some (.int a3), some (.int r11), none, none]) rfl ?_
            refine j_iconst (pc := 54) X dX8_guess_54 kc_0 ?_
            refine j_istore (pc := 55) X dX8_guess_55 (Nat.le_of_ble_eq_true rfl) (lv' := [some (.ref (ad 0)), some (.int a1), some (.int a2), some (.int a3), some (.int r11), some (.int 0), none]) rfl ?_
            obtain ⟨k123_11, ek123_11, hf⟩ := jn_s hf
            have hk123_11 : ∀ (_ : Unit), k123_11 = some r → J g (WC cI cS ad) 7 C 123 [some (.ref (ad 0)), some (.int a1), some (.int a2), some (.int a3), some (.int r11), none, none] [] := by
              intro _ hf
              have hf := jE0 ek123_11 hf
              refine j_bipush (pc := 123) X dX8_guess_123 kb_m14 ?_
              exact j_retI hR dX8_guess_125 hf
            exact lt_X8_guess_57 X hR N a1 a2 a3 r11      k123_11 hk123_11 N _ hf
          · have hf := kT c9 hf
            refine j_bipush (pc := 41) X dX8_guess_41 kb_m12 ?_
            exact j_retI hR dX8_guess_43 hf
        · have hf := kF c6 hf
          refine j_bipush (pc := 27) X dX8_guess_27 kb_m11 ?_
          exact j_retI hR dX8_guess_29 hf
theorem c_X8_guess {l : Launch} {D : va_G} {cI cS : ClassId} {ad : Nat → Nat} (N : Nat) (C : kS) (a1 : Int32) (a2 : Int32) (a3 : Int32) {r : Int32} (hf : f_X8_guess N C a1 a2 a3 = some r) : mI l yX8_guess wsX8_guess rm_X8_guess D cI cS (WC cI cS ad) C [.ref (ad 0), .int a1, .int a2, .int a3] r :=
  mI.of (by decide) rfl rfl (Nat.le_of_ble_eq_true rfl) (fun g X hR => t_X8_guess X  hR N a1 a2 a3  hf)
abbrev rm_X8_hiddenWord : Room := { frames := 2, cells := 0, slots := 0, locals := 44 }
theorem lk_X8_hiddenWord_0 : Cond.fieldLink RX8 54 "BlackBars" "sheet" "LBlackBars$Sheet;" ∈ wsX8_hiddenWord := List.mem_of_getElem? (i := 1) rfl
theorem iw_X8_hiddenWord_X8 : ∀ w ∈ wsX80, w ∈ wsX8_hiddenWord := fun _ h => List.mem_cons_of_mem _ (List.mem_append_left _ (List.mem_append_left _ (List.mem_append_left _ (List.mem_append_left _ (List.mem_append_right _ h)))))
theorem lk_X8_hiddenWord_1 : Cond.fieldLink RX8 42 "BlackBars" "bars" "LBlackBars$Bars;" ∈ wsX8_hiddenWord := List.mem_of_getElem? (i := 2) rfl
theorem lk_X8_hiddenWord_2 : Cond.fieldLink RX8 33 "BlackBars" "forms" "LBlackBars$Forms;" ∈ wsX8_hiddenWord := List.mem_of_getElem? (i := 3) rfl
def f_X8_hiddenWord (N : Nat) (C : kS) (a1 : Int32) (a2 : Int32) : Option (Int32) := (f_X4_isHidden N C a1).bind (fun r2 => if r2 = 0 then some (-14) else (f_X4_shownWidthOf N C a1).bind (fun r5 => (f_X0_namesUnder N C 113 r5).bind (fun r7 => if a2 = 4 then (f_X4_formOf N C a1).bind (fun r10 => (f_X1_nameOf N C r10).bind (fun r12 => some r12)) else if a2 = 5 then (f_X4_formOf N C a1).bind (fun r15 => (f_X1_endingOf N C r15).bind (fun r17 => some r17)) else if a2 = 6 then (f_J6_bitCount_0f7a4 N r7).bind (fun r20 => some r20) else if a2 = 7 then (f_J6_bitCount_0f7a4 N r7).bind (fun r23 => some r23) else if a2 = 8 then some r7 else (f_J6_bitCount_0f7a4 N r7).bind (fun r26 => some r26))))
theorem hd_X8_hiddenWord : kHd yX8_hiddenWord 2 := by decide +kernel
set_option maxHeartbeats 4000000 in
set_option maxRecDepth 100000 in
theorem t_X8_hiddenWord {g : kG} {cI cS : ClassId} {ad : Nat → Nat} {C : kS} (X : Kx g cI cS cX8_hiddenWord RX8 wsX8_hiddenWord 4 rm_X8_hiddenWord) {r : Int32} (hR : kRI g (WC cI cS ad) 4 cX8_hiddenWord .int C r) (N : Nat) (a1 : Int32) (a2 : Int32)  (hf : f_X8_hiddenWord N C a1 a2 = some r) : J g (WC cI cS ad) 4 C 0 [some (.ref (ad 0)), some (.int a1), some (.int a2), none] [] := by
  unfold f_X8_hiddenWord at hf
  refine j_aload_n (pc := 0) X dX8_hiddenWord_0 rfl ?_
  refine j_get (pc := 1) X iw_X8_hiddenWord_X8 (wc8 kd_0) rfl 6 (Nat.le_of_ble_eq_true rfl) lk_X8_hiddenWord_0 (v := .ref (ad 119)) rfl dX8_hiddenWord_1 ?_
  refine j_iload_n (pc := 4) X dX8_hiddenWord_4 rfl ?_
  obtain ⟨r2, h1, hf⟩ := kB hf
  refine j_callI (pc := 5) X (c_X4_isHidden N C a1 h1) gX8_hiddenWord_X4_isHidden rfl ⟨rfl, rfl⟩ rfl hd_X4_isHidden ⟨(Nat.le_of_ble_eq_true rfl), (Nat.le_of_ble_eq_true rfl)⟩ (wc4 kd_119) rfl rfl rfl (Nat.le_of_ble_eq_true rfl) rfl dX8_hiddenWord_5 ?_
  refine j_if_ne (tgt := 14) (pc := 8) X dX8_hiddenWord_8 rfl (fun c3 => ?_) (fun c3 => ?_)
  · have hf := kF c3 hf
    refine j_aload_n (pc := 14) X dX8_hiddenWord_14 rfl ?_
    refine j_get (pc := 15) X iw_X8_hiddenWord_X8 (wc8 kd_0) rfl 4 (Nat.le_of_ble_eq_true rfl) lk_X8_hiddenWord_1 (v := .ref (ad 113)) rfl dX8_hiddenWord_15 ?_
    refine j_aload_n (pc := 18) X dX8_hiddenWord_18 rfl ?_
    refine j_get (pc := 19) X iw_X8_hiddenWord_X8 (wc8 kd_0) rfl 6 (Nat.le_of_ble_eq_true rfl) lk_X8_hiddenWord_0 (v := .ref (ad 119)) rfl dX8_hiddenWord_19 ?_
    refine j_iload_n (pc := 22) X dX8_hiddenWord_22 rfl ?_
    obtain ⟨r5, h4, hf⟩ := kB hf
    refine j_callI (pc := 23) X (c_X4_shownWidthOf N C a1 h4) gX8_hiddenWord_X4_shownWidthOf rfl ⟨rfl, rfl⟩ rfl hd_X4_shownWidthOf ⟨(Nat.le_of_ble_eq_true rfl), (Nat.le_of_ble_eq_true rfl)⟩ (wc4 kd_119) rfl rfl rfl (Nat.le_of_ble_eq_true rfl) rfl dX8_hiddenWord_23 ?_
    obtain ⟨r7, h6, hf⟩ := kB hf
    refine j_callI (pc := 26) X (c_X0_namesUnder N C 113 kd_113 r5 h6) gX8_hiddenWord_X0_namesUnder rfl ⟨rfl, rfl⟩ rfl hd_X0_namesUnder ⟨(Nat.le_of_ble_eq_true rfl), (Nat.le_of_ble_eq_true rfl)⟩ (wc0 kd_113) rfl rfl rfl (Nat.le_of_ble_eq_true rfl) rfl dX8_hiddenWord_26 ?_
    refine j_istore_n (pc := 29) X dX8_hiddenWord_29 (Nat.le_of_ble_eq_true rfl) (lv' := [some (.ref (ad 0)), some (.int a1), some (.int a2), some (.int r7)]) rfl ?_
    refine j_iload_n (pc := 30) X dX8_hiddenWord_30 rfl ?_
    rcases Decidable.em (a2 = 4) with c8 | c8
    · have hf := kT c8 hf
      refine j_tabIn (v := 4) (off := 33) (tgt := 64) (pc := 31) X dX8_hiddenWord_31 c8 (by decide) (by decide) (by decide) rfl ?_
      refine j_aload_n (pc := 64) X dX8_hiddenWord_64 rfl ?_
      refine j_get (pc := 65) X iw_X8_hiddenWord_X8 (wc8 kd_0) rfl 3 (Nat.le_of_ble_eq_true rfl) lk_X8_hiddenWord_2 (v := .ref (ad 106)) rfl dX8_hiddenWord_65 ?_
      refine j_aload_n (pc := 68) X dX8_hiddenWord_68 rfl ?_
      refine j_get (pc := 69) X iw_X8_hiddenWord_X8 (wc8 kd_0) rfl 6 (Nat.le_of_ble_eq_true rfl) lk_X8_hiddenWord_0 (v := .ref (ad 119)) rfl dX8_hiddenWord_69 ?_
      refine j_iload_n (pc := 72) X dX8_hiddenWord_72 rfl ?_
      obtain ⟨r10, h9, hf⟩ := kB hf
      refine j_callI (pc := 73) X (c_X4_formOf N C a1 h9) gX8_hiddenWord_X4_formOf rfl ⟨rfl, rfl⟩ rfl hd_X4_formOf ⟨(Nat.le_of_ble_eq_true rfl), (Nat.le_of_ble_eq_true rfl)⟩ (wc4 kd_119) rfl rfl rfl (Nat.le_of_ble_eq_true rfl) rfl dX8_hiddenWord_73 ?_
      obtain ⟨r12, h11, hf⟩ := kB hf
      refine j_callI (pc := 76) X (c_X1_nameOf N C r10 h11) gX8_hiddenWord_X1_nameOf rfl ⟨rfl, rfl⟩ rfl hd_X1_nameOf ⟨(Nat.le_of_ble_eq_true rfl), (Nat.le_of_ble_eq_true rfl)⟩ (wc1 kd_106) rfl rfl rfl (Nat.le_of_ble_eq_true rfl) rfl dX8_hiddenWord_76 ?_
      exact j_retI hR dX8_hiddenWord_79 hf
    · have hf := kF c8 hf
      rcases Decidable.em (a2 = 5) with c13 | c13
      · have hf := kT c13 hf
        refine j_tabIn (v := 5) (off := 49) (tgt := 80) (pc := 31) X dX8_hiddenWord_31 c13 (by decide) (by decide) (by decide) rfl ?_
        refine j_aload_n (pc := 80) X dX8_hiddenWord_80 rfl ?_
        refine j_get (pc := 81) X iw_X8_hiddenWord_X8 (wc8 kd_0) rfl 3 (Nat.le_of_ble_eq_true rfl) lk_X8_hiddenWord_2 (v := .ref (ad 106)) rfl dX8_hiddenWord_81 ?_
        refine j_aload_n (pc := 84) X dX8_hiddenWord_84 rfl ?_
        refine j_get (pc := 85) X iw_X8_hiddenWord_X8 (wc8 kd_0) rfl 6 (Nat.le_of_ble_eq_true rfl) lk_X8_hiddenWord_0 (v := .ref (ad 119)) rfl dX8_hiddenWord_85 ?_
        refine j_iload_n (pc := 88) X dX8_hiddenWord_88 rfl ?_
        obtain ⟨r15, h14, hf⟩ := kB hf
        refine j_callI (pc := 89) X (c_X4_formOf N C a1 h14) gX8_hiddenWord_X4_formOf rfl ⟨rfl, rfl⟩ rfl hd_X4_formOf ⟨(Nat.le_of_ble_eq_true rfl), (Nat.le_of_ble_eq_true rfl)⟩ (wc4 kd_119) rfl rfl rfl (Nat.le_of_ble_eq_true rfl) rfl dX8_hiddenWord_89 ?_
        obtain ⟨r17, h16, hf⟩ := kB hf
        refine j_callI (pc := 92) X (c_X1_endingOf N C r15 h16) gX8_hiddenWord_X1_endingOf rfl ⟨rfl, rfl⟩ rfl hd_X1_endingOf ⟨(Nat.le_of_ble_eq_true rfl), (Nat.le_of_ble_eq_true rfl)⟩ (wc1 kd_106) rfl rfl rfl (Nat.le_of_ble_eq_true rfl) rfl dX8_hiddenWord_92 ?_
        exact j_retI hR dX8_hiddenWord_95 hf
      · have hf := kF c13 hf
        rcases Decidable.em (a2 = 6) with c18 | c18
        · have hf := kT c18 hf
          refine j_tabIn (v := 6) (off := 67) (tgt := 98) (pc := 31) X dX8_hiddenWord_31 c18 (by decide) (by decide) (by decide) rfl ?_
          refine j_iload_n (pc := 98) X dX8_hiddenWord_98 rfl ?_
          obtain ⟨r20, h19, hf⟩ := kB hf
          refine j_callP (pc := 99) X (c_J6_bitCount_0f7a4 N r7 h19) gX8_hiddenWord_J6_bitCount_0f7a4 rfl ⟨rfl, rfl⟩ hd_J6_bitCount_0f7a4 ⟨(Nat.le_of_ble_eq_true rfl), (Nat.le_of_ble_eq_true rfl)⟩ rfl (Nat.le_of_ble_eq_true rfl) rfl dX8_hiddenWord_99 ?_
          exact j_retI hR dX8_hiddenWord_102 hf
        · have hf := kF c18 hf
          rcases Decidable.em (a2 = 7) with c21 | c21
          · have hf := kT c21 hf
            refine j_tabIn (v := 7) (off := 67) (tgt := 98) (pc := 31) X dX8_hiddenWord_31 c21 (by decide) (by decide) (by decide) rfl ?_
            refine j_iload_n (pc := 98) X dX8_hiddenWord_98 rfl ?_
            obtain ⟨r23, h22, hf⟩ := kB hf
            refine j_callP (pc := 99) X (c_J6_bitCount_0f7a4 N r7 h22) gX8_hiddenWord_J6_bitCount_0f7a4 rfl ⟨rfl, rfl⟩ hd_J6_bitCount_0f7a4 ⟨(Nat.le_of_ble_eq_true rfl), (Nat.le_of_ble_eq_true rfl)⟩ rfl (Nat.le_of_ble_eq_true rfl) rfl dX8_hiddenWord_99 ?_
            exact j_retI hR dX8_hiddenWord_102 hf
          · have hf := kF c21 hf
            rcases Decidable.em (a2 = 8) with c24 | c24
            · have hf := kT c24 hf
              refine j_tabIn (v := 8) (off := 65) (tgt := 96) (pc := 31) X dX8_hiddenWord_31 c24 (by decide) (by decide) (by decide) rfl ?_
              refine j_iload_n (pc := 96) X dX8_hiddenWord_96 rfl ?_
              exact j_retI hR dX8_hiddenWord_97 hf
            · have hf := kF c24 hf
              refine j_tabOut (tgt := 98) (pc := 31) X dX8_hiddenWord_31 (by have gc8 := lv_neT (a := 4) c8 (by decide); have gc13 := lv_neT (a := 5) c13 (by decide); have gc18 := lv_neT (a := 6) c18 (by decide); have gc21 := lv_neT (a := 7) c21 (by decide); have gc24 := lv_neT (a := 8) c24 (by decide); omega) rfl ?_
              refine j_iload_n (pc := 98) X dX8_hiddenWord_98 rfl ?_
              obtain ⟨r26, h25, hf⟩ := kB hf
              refine j_callP (pc := 99) X (c_J6_bitCount_0f7a4 N r7 h25) gX8_hiddenWord_J6_bitCount_0f7a4 rfl ⟨rfl, rfl⟩ hd_J6_bitCount_0f7a4 ⟨(Nat.le_of_ble_eq_true rfl), (Nat.le_of_ble_eq_true rfl)⟩ rfl (Nat.le_of_ble_eq_true rfl) rfl dX8_hiddenWord_99 ?_
              exact j_retI hR dX8_hiddenWord_102 hf
  · have hf := kT c3 hf
    refine j_bipush (pc := 11) X dX8_hiddenWord_11 kb_m14 ?_
    exact j_retI hR dX8_hiddenWord_13 hf
theorem c_X8_hiddenWord {l : Launch} {D : va_G} {cI cS : ClassId} {ad : Nat → Nat} (N : Nat) (C : kS) (a1 : Int32) (a2 : Int32) {r : Int32} (hf : f_X8_hiddenWord N C a1 a2 = some r) : mI l yX8_hiddenWord wsX8_hiddenWord rm_X8_hiddenWord D cI cS (WC cI cS ad) C [.ref (ad 0), .int a1, .int a2] r :=
  mI.of (by decide) rfl rfl (Nat.le_of_ble_eq_true rfl) (fun g X hR => t_X8_hiddenWord X  hR N a1 a2  hf)
abbrev rm_X8_letter : Room := { frames := 2, cells := 0, slots := 0, locals := 43 }
theorem lk_X8_letter_0 : Cond.fieldLink RX8 19 "BlackBars" "state" "LBlackBars$State;" ∈ wsX8_letter := List.mem_of_getElem? (i := 1) rfl
theorem iw_X8_letter_X8 : ∀ w ∈ wsX80, w ∈ wsX8_letter := fun _ h => List.mem_cons_of_mem _ (List.mem_append_left _ (List.mem_append_left _ (List.mem_append_left _ (List.mem_append_left _ (List.mem_append_right _ h)))))
theorem iw_X8_letter_X5 : ∀ w ∈ wsX50, w ∈ wsX8_letter := fun _ h => List.mem_cons_of_mem _ (List.mem_append_left _ (List.mem_append_left _ (List.mem_append_left _ (List.mem_append_right _ h))))
theorem lk_X8_letter_1 : Cond.fieldLink RX8 54 "BlackBars" "sheet" "LBlackBars$Sheet;" ∈ wsX8_letter := List.mem_of_getElem? (i := 2) rfl
def f_X8_letter (N : Nat) (C : kS) (a1 : Int32) (a2 : Int32) : Option (Int32) := (f_X7_has N C 5 a1).bind (fun r2 => if r2 = 0 then some (-11) else if 0 ≤ a2 then (f_X4_isHidden N C a1).bind (fun r6 => if r6 = 0 then (f_X7_lengthOf N C 5 a1).bind (fun r9 => if a2 < r9 then (f_X7_letterOf N C 5 a1 a2).bind (fun r12 => some r12) else some (-14)) else some (-12)) else some (-11))
theorem hd_X8_letter : kHd yX8_letter 2 := by decide +kernel
set_option maxHeartbeats 4000000 in
set_option maxRecDepth 100000 in
theorem t_X8_letter {g : kG} {cI cS : ClassId} {ad : Nat → Nat} {C : kS} (X : Kx g cI cS cX8_letter RX8 wsX8_letter 3 rm_X8_letter) {r : Int32} (hR : kRI g (WC cI cS ad) 3 cX8_letter .int C r) (N : Nat) (a1 : Int32) (a2 : Int32)  (hf : f_X8_letter N C a1 a2 = some r) : J g (WC cI cS ad) 3 C 0 [some (.ref (ad 0)), some (.int a1), some (.int a2)] [] := by
  unfold f_X8_letter at hf
  refine j_aload_n (pc := 0) X dX8_letter_0 rfl ?_
  refine j_get (pc := 1) X iw_X8_letter_X8 (wc8 kd_0) rfl 1 (Nat.le_of_ble_eq_true rfl) lk_X8_letter_0 (v := .ref (ad 4)) rfl dX8_letter_1 ?_
  refine j_getN (pc := 4) X iw_X8_letter_X5 (wc5 kd_4) rfl 0 (Nat.le_of_ble_eq_true rfl) (List.mem_of_getElem? (i := 3) rfl) (v := .ref (ad 5)) rfl dX8_letter_4 ?_
  refine j_iload_n (pc := 7) X dX8_letter_7 rfl ?_
  obtain ⟨r2, h1, hf⟩ := kB hf
  refine j_callI (pc := 8) X (c_X7_has N C 5 (kd5_1 kd_4 : kd 5 = 7) a1 h1) gX8_letter_X7_has rfl ⟨rfl, rfl⟩ rfl hd_X7_has ⟨(Nat.le_of_ble_eq_true rfl), (Nat.le_of_ble_eq_true rfl)⟩ (wc7 (kd5_1 kd_4 : kd 5 = 7)) rfl rfl rfl (Nat.le_of_ble_eq_true rfl) rfl dX8_letter_8 ?_
  refine j_if_eq (tgt := 18) (pc := 11) X dX8_letter_11 rfl (fun c3 => ?_) (fun c3 => ?_)
  · have hf := kT c3 hf
    refine j_bipush (pc := 18) X dX8_letter_18 kb_m11 ?_
    exact j_retI hR dX8_letter_20 hf
  · have hf := kF c3 hf
    refine j_iload_n (pc := 14) X dX8_letter_14 rfl ?_
    refine j_if_ge (tgt := 21) (pc := 15) X dX8_letter_15 rfl (fun c4 => ?_) (fun c4 => ?_)
    · have hf := kT c4 hf
      refine j_aload_n (pc := 21) X dX8_letter_21 rfl ?_
      refine j_get (pc := 22) X iw_X8_letter_X8 (wc8 kd_0) rfl 6 (Nat.le_of_ble_eq_true rfl) lk_X8_letter_1 (v := .ref (ad 119)) rfl dX8_letter_22 ?_
      refine j_iload_n (pc := 25) X dX8_letter_25 rfl ?_
      obtain ⟨r6, h5, hf⟩ := kB hf
      refine j_callI (pc := 26) X (c_X4_isHidden N C a1 h5) gX8_letter_X4_isHidden rfl ⟨rfl, rfl⟩ rfl hd_X4_isHidden ⟨(Nat.le_of_ble_eq_true rfl), (Nat.le_of_ble_eq_true rfl)⟩ (wc4 kd_119) rfl rfl rfl (Nat.le_of_ble_eq_true rfl) rfl dX8_letter_26 ?_
      refine j_if_eq (tgt := 35) (pc := 29) X dX8_letter_29 rfl (fun c7 => ?_) (fun c7 => ?_)
      · have hf := kT c7 hf
        refine j_iload_n (pc := 35) X dX8_letter_35 rfl ?_
        refine j_aload_n (pc := 36) X dX8_letter_36 rfl ?_
        refine j_get (pc := 37) X iw_X8_letter_X8 (wc8 kd_0) rfl 1 (Nat.le_of_ble_eq_true rfl) lk_X8_letter_0 (v := .ref (ad 4)) rfl dX8_letter_37 ?_
        refine j_getN (pc := 40) X iw_X8_letter_X5 (wc5 kd_4) rfl 0 (Nat.le_of_ble_eq_true rfl) (List.mem_of_getElem? (i := 3) rfl) (v := .ref (ad 5)) rfl dX8_letter_40 ?_
        refine j_iload_n (pc := 43) X dX8_letter_43 rfl ?_
        obtain ⟨r9, h8, hf⟩ := kB hf
        refine j_callI (pc := 44) X (c_X7_lengthOf N C 5 (kd5_1 kd_4 : kd 5 = 7) a1 h8) gX8_letter_X7_lengthOf rfl ⟨rfl, rfl⟩ rfl hd_X7_lengthOf ⟨(Nat.le_of_ble_eq_true rfl), (Nat.le_of_ble_eq_true rfl)⟩ (wc7 (kd5_1 kd_4 : kd 5 = 7)) rfl rfl rfl (Nat.le_of_ble_eq_true rfl) rfl dX8_letter_44 ?_
        refine j_icmp_lt (tgt := 53) (pc := 47) X dX8_letter_47 rfl (fun c10 => ?_) (fun c10 => ?_)
        · have hf := kT c10 hf
          refine j_aload_n (pc := 53) X dX8_letter_53 rfl ?_
          refine j_get (pc := 54) X iw_X8_letter_X8 (wc8 kd_0) rfl 1 (Nat.le_of_ble_eq_true rfl) lk_X8_letter_0 (v := .ref (ad 4)) rfl dX8_letter_54 ?_
          refine j_getN (pc := 57) X iw_X8_letter_X5 (wc5 kd_4) rfl 0 (Nat.le_of_ble_eq_true rfl) (List.mem_of_getElem? (i := 3) rfl) (v := .ref (ad 5)) rfl dX8_letter_57 ?_
          refine j_iload_n (pc := 60) X dX8_letter_60 rfl ?_
          refine j_iload_n (pc := 61) X dX8_letter_61 rfl ?_
          obtain ⟨r12, h11, hf⟩ := kB hf
          refine j_callI (pc := 62) X (c_X7_letterOf N C 5 (kd5_1 kd_4 : kd 5 = 7) a1 a2 h11) gX8_letter_X7_letterOf rfl ⟨rfl, rfl⟩ rfl hd_X7_letterOf ⟨(Nat.le_of_ble_eq_true rfl), (Nat.le_of_ble_eq_true rfl)⟩ (wc7 (kd5_1 kd_4 : kd 5 = 7)) rfl rfl rfl (Nat.le_of_ble_eq_true rfl) rfl dX8_letter_62 ?_
          exact j_retI hR dX8_letter_65 hf
        · have hf := kF c10 hf
          refine j_bipush (pc := 50) X dX8_letter_50 kb_m14 ?_
          exact j_retI hR dX8_letter_52 hf
      · have hf := kF c7 hf
        refine j_bipush (pc := 32) X dX8_letter_32 kb_m12 ?_
        exact j_retI hR dX8_letter_34 hf
    · have hf := kF c4 hf
      refine j_bipush (pc := 18) X dX8_letter_18 kb_m11 ?_
      exact j_retI hR dX8_letter_20 hf
theorem c_X8_letter {l : Launch} {D : va_G} {cI cS : ClassId} {ad : Nat → Nat} (N : Nat) (C : kS) (a1 : Int32) (a2 : Int32) {r : Int32} (hf : f_X8_letter N C a1 a2 = some r) : mI l yX8_letter wsX8_letter rm_X8_letter D cI cS (WC cI cS ad) C [.ref (ad 0), .int a1, .int a2] r :=
  mI.of (by decide) rfl rfl (Nat.le_of_ble_eq_true rfl) (fun g X hR => t_X8_letter X  hR N a1 a2  hf)
abbrev rm_X8_line : Room := { frames := 3, cells := 0, slots := 0, locals := 66 }
theorem lk_X8_line_0 : Cond.fieldLink RX8 54 "BlackBars" "sheet" "LBlackBars$Sheet;" ∈ wsX8_line := List.mem_of_getElem? (i := 1) rfl
theorem iw_X8_line_X8 : ∀ w ∈ wsX80, w ∈ wsX8_line := fun _ h => List.mem_cons_of_mem _ (List.mem_append_left _ (List.mem_append_left _ (List.mem_append_left _ (List.mem_append_left _ (List.mem_append_right _ h)))))
theorem lk_X8_line_1 : Cond.fieldLink RX8 19 "BlackBars" "state" "LBlackBars$State;" ∈ wsX8_line := List.mem_of_getElem? (i := 2) rfl
theorem iw_X8_line_X5 : ∀ w ∈ wsX50, w ∈ wsX8_line := fun _ h => List.mem_cons_of_mem _ (List.mem_append_left _ (List.mem_append_left _ (List.mem_append_left _ (List.mem_append_right _ h))))
theorem lk_X8_line_2 : Cond.methodLink RX8 197 Lib.Math.max.name ∈ wsX8_line := List.mem_of_getElem? (i := 3) rfl
theorem lk_X8_line_3 : Cond.static Lib.Math.max.name ∈ wsX8_line := List.mem_of_getElem? (i := 4) rfl
theorem lk_X8_line_4 : Cond.initialized "java/lang/Math" ∈ wsX8_line := List.mem_of_getElem? (i := 5) rfl
theorem lk_X8_line_5 : Cond.code Lib.Math.max.name Lib.Math.max.code 2 (some .int) ∈ wsX8_line := List.mem_of_getElem? (i := 6) rfl
def f_X8_line (N : Nat) (C : kS) (a1 : Int32) (a2 : Int32) : Option (Int32) := (f_X4_hasLine N C a1).bind (fun r2 => if r2 = 0 then some (-11) else (f_X4_firstWordOf N C a1).bind (fun r5 => (f_X4_firstWordBehind N C a1).bind (fun r7 => if a2 = 0 then some r5 else if a2 = 1 then some (r7 - r5) else if a2 = 2 then (f_X4_widthBetween N C r5 r7).bind (fun r12 => some r12) else if a2 = 3 then (f_X3_at N C 22 4).bind (fun r15 => (f_X4_widthBetween N C r5 r7).bind (fun r17 => jn (if 0 < (r15 - r17) then (r15 - r17) else 0) (fun x18 : Int32 => some x18))) else if a2 = 4 then (f_X4_barsBetween N C r5 r7).bind (fun r21 => some r21) else some (-11))))
theorem hd_X8_line : kHd yX8_line 2 := by decide +kernel
set_option maxHeartbeats 4000000 in
set_option maxRecDepth 100000 in
theorem t_X8_line {g : kG} {cI cS : ClassId} {ad : Nat → Nat} {C : kS} (X : Kx g cI cS cX8_line RX8 wsX8_line 5 rm_X8_line) {r : Int32} (hR : kRI g (WC cI cS ad) 5 cX8_line .int C r) (N : Nat) (a1 : Int32) (a2 : Int32)  (hf : f_X8_line N C a1 a2 = some r) : J g (WC cI cS ad) 5 C 0 [some (.ref (ad 0)), some (.int a1), some (.int a2), none, none] [] := by
  unfold f_X8_line at hf
  refine j_aload_n (pc := 0) X dX8_line_0 rfl ?_
  refine j_get (pc := 1) X iw_X8_line_X8 (wc8 kd_0) rfl 6 (Nat.le_of_ble_eq_true rfl) lk_X8_line_0 (v := .ref (ad 119)) rfl dX8_line_1 ?_
  refine j_iload_n (pc := 4) X dX8_line_4 rfl ?_
  obtain ⟨r2, h1, hf⟩ := kB hf
  refine j_callI (pc := 5) X (c_X4_hasLine N C a1 h1) gX8_line_X4_hasLine rfl ⟨rfl, rfl⟩ rfl hd_X4_hasLine ⟨(Nat.le_of_ble_eq_true rfl), (Nat.le_of_ble_eq_true rfl)⟩ (wc4 kd_119) rfl rfl rfl (Nat.le_of_ble_eq_true rfl) rfl dX8_line_5 ?_
  refine j_if_ne (tgt := 14) (pc := 8) X dX8_line_8 rfl (fun c3 => ?_) (fun c3 => ?_)
  · have hf := kF c3 hf
    refine j_aload_n (pc := 14) X dX8_line_14 rfl ?_
    refine j_get (pc := 15) X iw_X8_line_X8 (wc8 kd_0) rfl 6 (Nat.le_of_ble_eq_true rfl) lk_X8_line_0 (v := .ref (ad 119)) rfl dX8_line_15 ?_
    refine j_iload_n (pc := 18) X dX8_line_18 rfl ?_
    obtain ⟨r5, h4, hf⟩ := kB hf
    refine j_callI (pc := 19) X (c_X4_firstWordOf N C a1 h4) gX8_line_X4_firstWordOf rfl ⟨rfl, rfl⟩ rfl hd_X4_firstWordOf ⟨(Nat.le_of_ble_eq_true rfl), (Nat.le_of_ble_eq_true rfl)⟩ (wc4 kd_119) rfl rfl rfl (Nat.le_of_ble_eq_true rfl) rfl dX8_line_19 ?_
    refine j_istore_n (pc := 22) X dX8_line_22 (Nat.le_of_ble_eq_true rfl) (lv' := [some (.ref (ad 0)), some (.int a1), some (.int a2), some (.int r5), none]) rfl ?_
    refine j_aload_n (pc := 23) X dX8_line_23 rfl ?_
    refine j_get (pc := 24) X iw_X8_line_X8 (wc8 kd_0) rfl 6 (Nat.le_of_ble_eq_true rfl) lk_X8_line_0 (v := .ref (ad 119)) rfl dX8_line_24 ?_
    refine j_iload_n (pc := 27) X dX8_line_27 rfl ?_
    obtain ⟨r7, h6, hf⟩ := kB hf
    refine j_callI (pc := 28) X (c_X4_firstWordBehind N C a1 h6) gX8_line_X4_firstWordBehind rfl ⟨rfl, rfl⟩ rfl hd_X4_firstWordBehind ⟨(Nat.le_of_ble_eq_true rfl), (Nat.le_of_ble_eq_true rfl)⟩ (wc4 kd_119) rfl rfl rfl (Nat.le_of_ble_eq_true rfl) rfl dX8_line_28 ?_
    refine j_istore (pc := 31) X dX8_line_31 (Nat.le_of_ble_eq_true rfl) (lv' := [some (.ref (ad 0)), some (.int a1), some (.int a2), some (.int r5), some (.int r7)]) rfl ?_
    refine j_iload_n (pc := 33) X dX8_line_33 rfl ?_
    rcases Decidable.em (a2 = 0) with c8 | c8
    · have hf := kT c8 hf
      refine j_tabIn (v := 0) (off := 34) (tgt := 68) (pc := 34) X dX8_line_34 c8 (by decide) (by decide) (by decide) rfl ?_
      refine j_iload_n (pc := 68) X dX8_line_68 rfl ?_
      exact j_retI hR dX8_line_69 hf
    · have hf := kF c8 hf
      rcases Decidable.em (a2 = 1) with c9 | c9
      · have hf := kT c9 hf
        refine j_tabIn (v := 1) (off := 36) (tgt := 70) (pc := 34) X dX8_line_34 c9 (by decide) (by decide) (by decide) rfl ?_
        refine j_iload (pc := 70) X dX8_line_70 rfl ?_
        refine j_iload_n (pc := 72) X dX8_line_72 rfl ?_
        refine j_isub (pc := 73) X dX8_line_73 ?_
        exact j_retI hR dX8_line_74 hf
      · have hf := kF c9 hf
        rcases Decidable.em (a2 = 2) with c10 | c10
        · have hf := kT c10 hf
          refine j_tabIn (v := 2) (off := 41) (tgt := 75) (pc := 34) X dX8_line_34 c10 (by decide) (by decide) (by decide) rfl ?_
          refine j_aload_n (pc := 75) X dX8_line_75 rfl ?_
          refine j_get (pc := 76) X iw_X8_line_X8 (wc8 kd_0) rfl 6 (Nat.le_of_ble_eq_true rfl) lk_X8_line_0 (v := .ref (ad 119)) rfl dX8_line_76 ?_
          refine j_iload_n (pc := 79) X dX8_line_79 rfl ?_
          refine j_iload (pc := 80) X dX8_line_80 rfl ?_
          obtain ⟨r12, h11, hf⟩ := kB hf
          refine j_callI (pc := 82) X (c_X4_widthBetween N C r5 r7 h11) gX8_line_X4_widthBetween rfl ⟨rfl, rfl⟩ rfl hd_X4_widthBetween ⟨(Nat.le_of_ble_eq_true rfl), (Nat.le_of_ble_eq_true rfl)⟩ (wc4 kd_119) rfl rfl rfl (Nat.le_of_ble_eq_true rfl) rfl dX8_line_82 ?_
          exact j_retI hR dX8_line_85 hf
        · have hf := kF c10 hf
          rcases Decidable.em (a2 = 3) with c13 | c13
          · have hf := kT c13 hf
            refine j_tabIn (v := 3) (off := 52) (tgt := 86) (pc := 34) X dX8_line_34 c13 (by decide) (by decide) (by decide) rfl ?_
            refine j_iconst (pc := 86) X dX8_line_86 kc_0 ?_
            refine j_aload_n (pc := 87) X dX8_line_87 rfl ?_
            refine j_get (pc := 88) X iw_X8_line_X8 (wc8 kd_0) rfl 1 (Nat.le_of_ble_eq_true rfl) lk_X8_line_1 (v := .ref (ad 4)) rfl dX8_line_88 ?_
            refine j_getN (pc := 91) X iw_X8_line_X5 (wc5 kd_4) rfl 4 (Nat.le_of_ble_eq_true rfl) (List.mem_of_getElem? (i := 2) rfl) (v := .ref (ad 22)) rfl dX8_line_91 ?_
            refine j_iconst (pc := 94) X dX8_line_94 kc_4 ?_
            obtain ⟨r15, h14, hf⟩ := kB hf
            refine j_callI (pc := 95) X (c_X3_at N C 22 (kd5_18 kd_4 : kd 22 = 3) 4 h14) gX8_line_X3_at rfl ⟨rfl, rfl⟩ rfl hd_X3_at ⟨(Nat.le_of_ble_eq_true rfl), (Nat.le_of_ble_eq_true rfl)⟩ (wc3 (kd5_18 kd_4 : kd 22 = 3)) rfl rfl rfl (Nat.le_of_ble_eq_true rfl) rfl dX8_line_95 ?_
            refine j_aload_n (pc := 98) X dX8_line_98 rfl ?_
            refine j_get (pc := 99) X iw_X8_line_X8 (wc8 kd_0) rfl 6 (Nat.le_of_ble_eq_true rfl) lk_X8_line_0 (v := .ref (ad 119)) rfl dX8_line_99 ?_
            refine j_iload_n (pc := 102) X dX8_line_102 rfl ?_
            refine j_iload (pc := 103) X dX8_line_103 rfl ?_
            obtain ⟨r17, h16, hf⟩ := kB hf
            refine j_callI (pc := 105) X (c_X4_widthBetween N C r5 r7 h16) gX8_line_X4_widthBetween rfl ⟨rfl, rfl⟩ rfl hd_X4_widthBetween ⟨(Nat.le_of_ble_eq_true rfl), (Nat.le_of_ble_eq_true rfl)⟩ (wc4 kd_119) rfl rfl rfl (Nat.le_of_ble_eq_true rfl) rfl dX8_line_105 ?_
            refine j_isub (pc := 108) X dX8_line_108 ?_
            obtain ⟨x18, ex18, hf⟩ := jn_s hf
            refine j_mmax (pc := 109) X lk_X8_line_2 lk_X8_line_3 lk_X8_line_4 lk_X8_line_5 (Nat.le_of_ble_eq_true rfl) (Nat.le_of_ble_eq_true rfl) dX8_line_109 ?_
            rw [← ex18]
            exact j_retI hR dX8_line_112 hf
          · have hf := kF c13 hf
            rcases Decidable.em (a2 = 4) with c19 | c19
            · have hf := kT c19 hf
              refine j_tabIn (v := 4) (off := 79) (tgt := 113) (pc := 34) X dX8_line_34 c19 (by decide) (by decide) (by decide) rfl ?_
              refine j_aload_n (pc := 113) X dX8_line_113 rfl ?_
              refine j_get (pc := 114) X iw_X8_line_X8 (wc8 kd_0) rfl 6 (Nat.le_of_ble_eq_true rfl) lk_X8_line_0 (v := .ref (ad 119)) rfl dX8_line_114 ?_
              refine j_iload_n (pc := 117) X dX8_line_117 rfl ?_
              refine j_iload (pc := 118) X dX8_line_118 rfl ?_
              obtain ⟨r21, h20, hf⟩ := kB hf
              refine j_callI (pc := 120) X (c_X4_barsBetween N C r5 r7 h20) gX8_line_X4_barsBetween rfl ⟨rfl, rfl⟩ rfl hd_X4_barsBetween ⟨(Nat.le_of_ble_eq_true rfl), (Nat.le_of_ble_eq_true rfl)⟩ (wc4 kd_119) rfl rfl rfl (Nat.le_of_ble_eq_true rfl) rfl dX8_line_120 ?_
              exact j_retI hR dX8_line_123 hf
            · have hf := kF c19 hf
              refine j_tabOut (tgt := 124) (pc := 34) X dX8_line_34 (by have gc8 := lv_neT (a := 0) c8 (by decide); have gc9 := lv_neT (a := 1) c9 (by decide); have gc10 := lv_neT (a := 2) c10 (by decide); have gc13 := lv_neT (a := 3) c13 (by decide); have gc19 := lv_neT (a := 4) c19 (by decide); omega) rfl ?_
              refine j_bipush (pc := 124) X dX8_line_124 kb_m11 ?_
              exact j_retI hR dX8_line_126 hf
  · have hf := kT c3 hf
    refine j_bipush (pc := 11) X dX8_line_11 kb_m11 ?_
    exact j_retI hR dX8_line_13 hf
theorem c_X8_line {l : Launch} {D : va_G} {cI cS : ClassId} {ad : Nat → Nat} (N : Nat) (C : kS) (a1 : Int32) (a2 : Int32) {r : Int32} (hf : f_X8_line N C a1 a2 = some r) : mI l yX8_line wsX8_line rm_X8_line D cI cS (WC cI cS ad) C [.ref (ad 0), .int a1, .int a2] r :=
  mI.of (by decide) rfl rfl (Nat.le_of_ble_eq_true rfl) (fun g X hR => t_X8_line X  hR N a1 a2  hf)
abbrev rm_X8_modeFor : Room := { frames := 4, cells := 0, slots := 0, locals := 92 }
theorem lk_X8_modeFor_0 : Cond.fieldLink RX8 46 "BlackBars" "trialBars" "LBlackBars$Bars;" ∈ wsX8_modeFor := List.mem_of_getElem? (i := 1) rfl
theorem iw_X8_modeFor_X8 : ∀ w ∈ wsX80, w ∈ wsX8_modeFor := fun _ h => List.mem_cons_of_mem _ (List.mem_append_left _ (List.mem_append_left _ (List.mem_append_left _ (List.mem_append_left _ (List.mem_append_left _ (List.mem_append_left _ (List.mem_append_right _ h)))))))
theorem lk_X8_modeFor_1 : Cond.fieldLink RX8 19 "BlackBars" "state" "LBlackBars$State;" ∈ wsX8_modeFor := List.mem_of_getElem? (i := 2) rfl
theorem iw_X8_modeFor_X5 : ∀ w ∈ wsX50, w ∈ wsX8_modeFor := fun _ h => List.mem_cons_of_mem _ (List.mem_append_left _ (List.mem_append_left _ (List.mem_append_left _ (List.mem_append_left _ (List.mem_append_left _ (List.mem_append_right _ h))))))
theorem lk_X8_modeFor_2 : Cond.fieldLink RX8 54 "BlackBars" "sheet" "LBlackBars$Sheet;" ∈ wsX8_modeFor := List.mem_of_getElem? (i := 3) rfl
def lp_X8_modeFor_7 (N : Nat) (k104_2 : Int32 → kS → Option (Int32 × kS)) : Nat → Int32 → Int32 → Int32 → kS → Option (Int32 × kS)
  | 0, _, _, _, _ => none
  | n + 1, x4, x5, x6, C7 => if 3 < x6 then k104_2 x4 C7 else (f_X3_at N C7 22 1).bind (fun r10 => (f_X3_at N C7 22 2).bind (fun r12 => (f_X0_draw N C7 116 x6 r10 r12).bind (fun C14 => (f_X4_sumOfShownWidths N C14 116).bind (fun r16 => jn (fun (t17 : Int32) => jn (fun (x19 : Int32) (x20 : Int32) => lp_X8_modeFor_7 N k104_2 n x19 x20 (x6 + 1) C14) (fun j98_20 => if t17 = 0 then j98_20 x4 x5 else (f_X4_betrayedBars N C14 116).bind (fun r24 => if r24 = 0 then j98_20 x6 r16 else j98_20 x4 x5))) (fun j72_17 => jn (j72_17 1) (fun j67_25 => if x4 = (-14) then j67_25 else if x5 ≤ r16 then j72_17 0 else j67_25))))))
def f_X8_modeFor (N : Nat) (C : kS) : Option (Int32 × kS) := jn (fun (x1 : Int32) (C2 : kS) => some (x1, C2)) (fun k104_2 => lp_X8_modeFor_7 N k104_2 N (-14) 0 0 C)
theorem hd_X8_modeFor : kHd yX8_modeFor 0 := by decide +kernel
set_option maxHeartbeats 4000000 in
set_option maxRecDepth 100000 in
theorem lt_X8_modeFor_7 {g : kG} {cI cS : ClassId} {ad : Nat → Nat} (X : Kx g cI cS cX8_modeFor RX8 wsX8_modeFor 6 rm_X8_modeFor) {r : Int32} {Cr : kS} (hI : kInj 132 ad) (Y : Kw g (WC cI cS ad) (kAd 132 ad)) (hR : kRI g (WC cI cS ad) 6 cX8_modeFor .int Cr r) (N : Nat)   (k104_2 : Int32 → kS → Option (Int32 × kS)) (hk104_2 : ∀ (x1 : Int32) (C2 : kS), k104_2 x1 C2 = some (r, Cr) → J g (WC cI cS ad) 6 C2 104 [some (.ref (ad 0)), some (.int x1), none, none, none, none] []) : ∀ (n : Nat) (x4 : Int32) (x5 : Int32) (x6 : Int32) (C7 : kS), lp_X8_modeFor_7 N k104_2 n x4 x5 x6 C7 = some (r, Cr) → J g (WC cI cS ad) 6 C7 7 [some (.ref (ad 0)), some (.int x4), some (.int x5), some (.int x6), none, none] [] := by
  intro n
  induction n with
  | zero =>
    intro x4 x5 x6 C7 hf
    rw [lp_X8_modeFor_7] at hf
    cases hf
  | succ n ih =>
    intro x4 x5 x6 C7 hf
    rw [lp_X8_modeFor_7] at hf
    refine j_iload_n (pc := 7) X dX8_modeFor_7 rfl ?_
    refine j_iconst (pc := 8) X dX8_modeFor_8 kc_3 ?_
    refine j_icmp_gt (tgt := 104) (pc := 9) X dX8_modeFor_9 rfl (fun c8 => ?_) (fun c8 => ?_)
    · have hf := kT c8 hf
      refine j_weak (lv' := [some (.ref (ad 0)), some (.int x4), none, none, none, none]) (And.intro rfl (And.intro rfl trivial)) ?_
      exact hk104_2 _ _ hf
    · have hf := kF c8 hf
      refine j_aload_n (pc := 12) X dX8_modeFor_12 rfl ?_
      refine j_get (pc := 13) X iw_X8_modeFor_X8 (wc8 kd_0) rfl 5 (Nat.le_of_ble_eq_true rfl) lk_X8_modeFor_0 (v := .ref (ad 116)) rfl dX8_modeFor_13 ?_
      refine j_iload_n (pc := 16) X dX8_modeFor_16 rfl ?_
      refine j_aload_n (pc := 17) X dX8_modeFor_17 rfl ?_
      refine j_get (pc := 18) X iw_X8_modeFor_X8 (wc8 kd_0) rfl 1 (Nat.le_of_ble_eq_true rfl) lk_X8_modeFor_1 (v := .ref (ad 4)) rfl dX8_modeFor_18 ?_
      refine j_getN (pc := 21) X iw_X8_modeFor_X5 (wc5 kd_4) rfl 4 (Nat.le_of_ble_eq_true rfl) (List.mem_of_getElem? (i := 2) rfl) (v := .ref (ad 22)) rfl dX8_modeFor_21 ?_
      refine j_iconst (pc := 24) X dX8_modeFor_24 kc_1 ?_
      obtain ⟨r10, h9, hf⟩ := kB hf
      refine j_callI (pc := 25) X (c_X3_at N C7 22 (kd5_18 kd_4 : kd 22 = 3) 1 h9) gX8_modeFor_X3_at rfl ⟨rfl, rfl⟩ rfl hd_X3_at ⟨(Nat.le_of_ble_eq_true rfl), (Nat.le_of_ble_eq_true rfl)⟩ (wc3 (kd5_18 kd_4 : kd 22 = 3)) rfl rfl rfl (Nat.le_of_ble_eq_true rfl) rfl dX8_modeFor_25 ?_
      refine j_aload_n (pc := 28) X dX8_modeFor_28 rfl ?_
      refine j_get (pc := 29) X iw_X8_modeFor_X8 (wc8 kd_0) rfl 1 (Nat.le_of_ble_eq_true rfl) lk_X8_modeFor_1 (v := .ref (ad 4)) rfl dX8_modeFor_29 ?_
      refine j_getN (pc := 32) X iw_X8_modeFor_X5 (wc5 kd_4) rfl 4 (Nat.le_of_ble_eq_true rfl) (List.mem_of_getElem? (i := 2) rfl) (v := .ref (ad 22)) rfl dX8_modeFor_32 ?_
      refine j_iconst (pc := 35) X dX8_modeFor_35 kc_2 ?_
      obtain ⟨r12, h11, hf⟩ := kB hf
      refine j_callI (pc := 36) X (c_X3_at N C7 22 (kd5_18 kd_4 : kd 22 = 3) 2 h11) gX8_modeFor_X3_at rfl ⟨rfl, rfl⟩ rfl hd_X3_at ⟨(Nat.le_of_ble_eq_true rfl), (Nat.le_of_ble_eq_true rfl)⟩ (wc3 (kd5_18 kd_4 : kd 22 = 3)) rfl rfl rfl (Nat.le_of_ble_eq_true rfl) rfl dX8_modeFor_36 ?_
      obtain ⟨C14, h13, hf⟩ := kB hf
      refine j_callV (pc := 39) X Y (c_X0_draw hI N C7 116 kd_116 x6 r10 r12 h13) gX8_modeFor_X0_draw rfl ⟨rfl, rfl⟩ rfl hd_X0_draw ⟨(Nat.le_of_ble_eq_true rfl), (Nat.le_of_ble_eq_true rfl)⟩ (wc0 kd_116) rfl rfl rfl (Nat.le_of_ble_eq_true rfl) rfl dX8_modeFor_39 ?_
      refine j_aload_n (pc := 42) X dX8_modeFor_42 rfl ?_
      refine j_get (pc := 43) X iw_X8_modeFor_X8 (wc8 kd_0) rfl 6 (Nat.le_of_ble_eq_true rfl) lk_X8_modeFor_2 (v := .ref (ad 119)) rfl dX8_modeFor_43 ?_
      refine j_aload_n (pc := 46) X dX8_modeFor_46 rfl ?_
      refine j_get (pc := 47) X iw_X8_modeFor_X8 (wc8 kd_0) rfl 5 (Nat.le_of_ble_eq_true rfl) lk_X8_modeFor_0 (v := .ref (ad 116)) rfl dX8_modeFor_47 ?_
      obtain ⟨r16, h15, hf⟩ := kB hf
      refine j_callI (pc := 50) X (c_X4_sumOfShownWidths N C14 116 kd_116 h15) gX8_modeFor_X4_sumOfShownWidths rfl ⟨rfl, rfl⟩ rfl hd_X4_sumOfShownWidths ⟨(Nat.le_of_ble_eq_true rfl), (Nat.le_of_ble_eq_true rfl)⟩ (wc4 kd_119) rfl rfl rfl (Nat.le_of_ble_eq_true rfl) rfl dX8_modeFor_50 ?_
      refine j_istore (pc := 53) X dX8_modeFor_53 (Nat.le_of_ble_eq_true rfl) (lv' := [some (.ref (ad 0)), some (.int x4), some (.int x5), some (.int x6), some (.int r16), none]) rfl ?_
      refine j_iload_n (pc := 55) X dX8_modeFor_55 rfl ?_
      refine j_bipush (pc := 56) X dX8_modeFor_56 kb_m14 ?_
      obtain ⟨j72_17, ej72_17, hf⟩ := jn_s hf
      have hj72_17 : ∀ (t17 : Int32), j72_17 t17 = some (r, Cr) → J g (WC cI cS ad) 6 C14 72 [some (.ref (ad 0)), some (.int x4), some (.int x5), some (.int x6), some (.int r16), none] [.int t17] := by
        intro t17 hf
        have hf := jE1 ej72_17 hf
        refine j_istore (pc := 72) X dX8_modeFor_72 (Nat.le_of_ble_eq_true rfl) (lv' := [some (.ref (ad 0)), some (.int x4), some (.int x5), some (.int x6), some (.int r16), some (.int t17)]) rfl ?_
        refine j_iload (pc := 74) X dX8_modeFor_74 rfl ?_
        obtain ⟨j98_20, ej98_20, hf⟩ := jn_s hf
        have hj98_20 : ∀ (x19 : Int32) (x20 : Int32), j98_20 x19 x20 = some (r, Cr) → J g (WC cI cS ad) 6 C14 98 [some (.ref (ad 0)), some (.int x19), some (.int x20), some (.int x6), some (.int r16), some (.int t17)] [] := by
          intro x19 x20 hf
          have hf := jE2 ej98_20 hf
          refine j_iinc (pc := 98) X dX8_modeFor_98 rfl (v := x6 + 1) (by rw [kc_1]) (Nat.le_of_ble_eq_true rfl) (lv' := [some (.ref (ad 0)), some (.int x19), some (.int x20), some (.int (x6 + 1)), some (.int r16), some (.int t17)]) rfl ?_
          refine j_goto (tgt := 7) (pc := 101) X dX8_modeFor_101 rfl ?_
          refine j_weak (lv' := [some (.ref (ad 0)), some (.int x19), some (.int x20), some (.int (x6 + 1)), none, none]) (And.intro rfl (And.intro rfl (And.intro rfl (And.intro rfl trivial)))) ?_
          exact ih _ _ _ _ hf
        refine j_if_eq (tgt := 98) (pc := 76) X dX8_modeFor_76 rfl (fun c22 => ?_) (fun c22 => ?_)
        · have hf := kT c22 hf
          exact hj98_20 _ _ hf
        · have hf := kF c22 hf
          refine j_aload_n (pc := 79) X dX8_modeFor_79 rfl ?_
          refine j_get (pc := 80) X iw_X8_modeFor_X8 (wc8 kd_0) rfl 6 (Nat.le_of_ble_eq_true rfl) lk_X8_modeFor_2 (v := .ref (ad 119)) rfl dX8_modeFor_80 ?_
          refine j_aload_n (pc := 83) X dX8_modeFor_83 rfl ?_
          refine j_get (pc := 84) X iw_X8_modeFor_X8 (wc8 kd_0) rfl 5 (Nat.le_of_ble_eq_true rfl) lk_X8_modeFor_0 (v := .ref (ad 116)) rfl dX8_modeFor_84 ?_
          obtain ⟨r24, h23, hf⟩ := kB hf
          refine j_callI (pc := 87) X (c_X4_betrayedBars N C14 116 kd_116 h23) gX8_modeFor_X4_betrayedBars rfl ⟨rfl, rfl⟩ rfl hd_X4_betrayedBars ⟨(Nat.le_of_ble_eq_true rfl), (Nat.le_of_ble_eq_true rfl)⟩ (wc4 kd_119) rfl rfl rfl (Nat.le_of_ble_eq_true rfl) rfl dX8_modeFor_87 ?_
          refine j_if_ne (tgt := 98) (pc := 90) X dX8_modeFor_90 rfl (fun c25 => ?_) (fun c25 => ?_)
          · have hf := kF c25 hf
            exact hj98_20 _ _ hf
          · have hf := kT c25 hf
            refine j_iload_n (pc := 93) X dX8_modeFor_93 rfl ?_
            refine j_istore_n (pc := 94) X dX8_modeFor_94 (Nat.le_of_ble_eq_true rfl) (lv' := [some (.ref (ad 0)), some (.int x6), some (.int x5), some (.int x6), some (.int r16), some (.int t17)]) rfl ?_
            refine j_iload (pc := 95) X dX8_modeFor_95 rfl ?_
            refine j_istore_n (pc := 97) X dX8_modeFor_97 (Nat.le_of_ble_eq_true rfl) (lv' := [some (.ref (ad 0)), some (.int x6), some (.int r16), some (.int x6), some (.int r16), some (.int t17)]) rfl ?_
            exact hj98_20 _ _ hf
      obtain ⟨j67_25, ej67_25, hf⟩ := jn_s hf
      have hj67_25 : ∀ (_ : Unit), j67_25 = some (r, Cr) → J g (WC cI cS ad) 6 C14 67 [some (.ref (ad 0)), some (.int x4), some (.int x5), some (.int x6), some (.int r16), none] [] := by
        intro _ hf
        have hf := jE0 ej67_25 hf
        refine j_iconst (pc := 67) X dX8_modeFor_67 kc_1 ?_
        refine j_goto (tgt := 72) (pc := 68) X dX8_modeFor_68 rfl ?_
        exact hj72_17 _ hf
      refine j_icmp_eq (tgt := 67) (pc := 58) X dX8_modeFor_58 rfl (fun c27 => ?_) (fun c27 => ?_)
      · have hf := kT c27 hf
        exact hj67_25 () hf
      · have hf := kF c27 hf
        refine j_iload (pc := 61) X dX8_modeFor_61 rfl ?_
        refine j_iload_n (pc := 63) X dX8_modeFor_63 rfl ?_
        refine j_icmp_ge (tgt := 71) (pc := 64) X dX8_modeFor_64 rfl (fun c28 => ?_) (fun c28 => ?_)
        · have hf := kT c28 hf
          refine j_iconst (pc := 71) X dX8_modeFor_71 kc_0 ?_
          exact hj72_17 _ hf
        · have hf := kF c28 hf
          exact hj67_25 () hf
set_option maxHeartbeats 4000000 in
set_option maxRecDepth 100000 in
theorem t_X8_modeFor {g : kG} {cI cS : ClassId} {ad : Nat → Nat} (X : Kx g cI cS cX8_modeFor RX8 wsX8_modeFor 6 rm_X8_modeFor) {r : Int32} {Cr : kS} (hI : kInj 132 ad) (Y : Kw g (WC cI cS ad) (kAd 132 ad)) (hR : kRI g (WC cI cS ad) 6 cX8_modeFor .int Cr r) (N : Nat) (C : kS)   (hf : f_X8_modeFor N C = some (r, Cr)) : J g (WC cI cS ad) 6 C 0 [some (.ref (ad 0)), none, none, none, none, none] [] := by
  unfold f_X8_modeFor at hf
  refine j_bipush (pc := 0) X dX8_modeFor_0 kb_m14 ?_
  refine j_istore_n (pc := 2) X dX8_modeFor_2 (Nat.le_of_ble_eq_true rfl) (lv' := [some (.ref (ad 0)), some (.int (-14)), none, none, none, none]) rfl ?_
  refine j_iconst (pc := 3) X dX8_modeFor_3 kc_0 ?_
  refine j_istore_n (pc := 4) X dX8_modeFor_4 (Nat.le_of_ble_eq_true rfl) (lv' := [some (.ref (ad 0)), some (.int (-14)), some (.int 0), none, none, none]) rfl ?_
  refine j_iconst (pc := 5) X dX8_modeFor_5 kc_0 ?_
  refine j_istore_n (pc := 6) X dX8_modeFor_6 (Nat.le_of_ble_eq_true rfl) (lv' := [some (.ref (ad 0)), some (.int (-14)), some (.int 0), some (.int 0), none, none]) rfl ?_
  obtain ⟨k104_2, ek104_2, hf⟩ := jn_s hf
  have hk104_2 : ∀ (x1 : Int32) (C2 : kS), k104_2 x1 C2 = some (r, Cr) → J g (WC cI cS ad) 6 C2 104 [some (.ref (ad 0)), some (.int x1), none, none, none, none] [] := by
    intro x1 C2 hf
    have hf := jE2 ek104_2 hf
    refine j_iload_n (pc := 104) X dX8_modeFor_104 rfl ?_
    exact j_retW hR dX8_modeFor_105 hf
  exact lt_X8_modeFor_7 X hI Y hR N   k104_2 hk104_2 N _ _ _ _ hf
theorem c_X8_modeFor {l : Launch} {D : va_G} {cI cS : ClassId} {ad : Nat → Nat} (hI : kInj 132 ad) (N : Nat) (C : kS)  {r : Int32} {Cr : kS} (hf : f_X8_modeFor N C = some (r, Cr)) : mW l yX8_modeFor wsX8_modeFor rm_X8_modeFor D cI cS (WC cI cS ad) (kAd 132 ad) C [.ref (ad 0)] r Cr :=
  mW.of (by decide) rfl rfl (Nat.le_of_ble_eq_true rfl) (WC_D hI) (fun g X Y hR => t_X8_modeFor X hI Y hR N C   hf)
abbrev rm_X8_name : Room := { frames := 6, cells := 0, slots := 0, locals := 146 }
theorem lk_X8_name_0 : Cond.fieldLink RX8 19 "BlackBars" "state" "LBlackBars$State;" ∈ wsX8_name := List.mem_of_getElem? (i := 1) rfl
theorem iw_X8_name_X8 : ∀ w ∈ wsX80, w ∈ wsX8_name := fun _ h => List.mem_cons_of_mem _ (List.mem_append_left _ (List.mem_append_left _ (List.mem_append_left _ (List.mem_append_left _ (List.mem_append_left _ (List.mem_append_left _ (List.mem_append_left _ (List.mem_append_left _ (List.mem_append_right _ h)))))))))
theorem iw_X8_name_X5 : ∀ w ∈ wsX50, w ∈ wsX8_name := fun _ h => List.mem_cons_of_mem _ (List.mem_append_left _ (List.mem_append_left _ (List.mem_append_left _ (List.mem_append_left _ (List.mem_append_left _ (List.mem_append_left _ (List.mem_append_left _ (List.mem_append_right _ h))))))))
def f_X8_name (N : Nat) (C : kS) : Option (Int32 × kS) := (f_X8_addTextTo N C 10).bind (fun p2 => some (p2.1, p2.2))
theorem hd_X8_name : kHd yX8_name 0 := by decide +kernel
set_option maxHeartbeats 4000000 in
set_option maxRecDepth 100000 in
theorem t_X8_name {g : kG} {cI cS : ClassId} {ad : Nat → Nat} (X : Kx g cI cS cX8_name RX8 wsX8_name 1 rm_X8_name) {r : Int32} {Cr : kS} (hI : kInj 132 ad) (Y : Kw g (WC cI cS ad) (kAd 132 ad)) (hR : kRI g (WC cI cS ad) 1 cX8_name .int Cr r) (N : Nat) (C : kS)   (hf : f_X8_name N C = some (r, Cr)) : J g (WC cI cS ad) 1 C 0 [some (.ref (ad 0))] [] := by
  unfold f_X8_name at hf
  refine j_aload_n (pc := 0) X dX8_name_0 rfl ?_
  refine j_aload_n (pc := 1) X dX8_name_1 rfl ?_
  refine j_get (pc := 2) X iw_X8_name_X8 (wc8 kd_0) rfl 1 (Nat.le_of_ble_eq_true rfl) lk_X8_name_0 (v := .ref (ad 4)) rfl dX8_name_2 ?_
  refine j_getN (pc := 5) X iw_X8_name_X5 (wc5 kd_4) rfl 1 (Nat.le_of_ble_eq_true rfl) (List.mem_of_getElem? (i := 4) rfl) (v := .ref (ad 10)) rfl dX8_name_5 ?_
  obtain ⟨p2, h1, hf⟩ := kB hf
  refine j_callW (pc := 8) X Y (c_X8_addTextTo hI N C 10 (kd5_6 kd_4 : kd 10 = 7) h1) gX8_name_X8_addTextTo rfl ⟨rfl, rfl⟩ rfl hd_X8_addTextTo ⟨(Nat.le_of_ble_eq_true rfl), (Nat.le_of_ble_eq_true rfl)⟩ (wc8 kd_0) rfl rfl rfl (Nat.le_of_ble_eq_true rfl) rfl dX8_name_8 ?_
  exact j_retW hR dX8_name_11 hf
theorem c_X8_name {l : Launch} {D : va_G} {cI cS : ClassId} {ad : Nat → Nat} (hI : kInj 132 ad) (N : Nat) (C : kS)  {r : Int32} {Cr : kS} (hf : f_X8_name N C = some (r, Cr)) : mW l yX8_name wsX8_name rm_X8_name D cI cS (WC cI cS ad) (kAd 132 ad) C [.ref (ad 0)] r Cr :=
  mW.of (by decide) rfl rfl (Nat.le_of_ble_eq_true rfl) (WC_D hI) (fun g X Y hR => t_X8_name X hI Y hR N C   hf)
abbrev rm_X8_page : Room := { frames := 5, cells := 0, slots := 0, locals := 125 }
theorem lk_X8_page_0 : Cond.fieldLink RX8 12 "BlackBars" "text" "LBlackBars$Text;" ∈ wsX8_page := List.mem_of_getElem? (i := 1) rfl
theorem iw_X8_page_X8 : ∀ w ∈ wsX80, w ∈ wsX8_page := fun _ h => List.mem_cons_of_mem _ (List.mem_append_left _ (List.mem_append_left _ (List.mem_append_left _ (List.mem_append_left _ (List.mem_append_left _ (List.mem_append_left _ (List.mem_append_left _ (List.mem_append_left _ (List.mem_append_right _ h)))))))))
theorem lk_X8_page_1 : Cond.fieldLink RX8 26 "BlackBars" "history" "LBlackBars$History;" ∈ wsX8_page := List.mem_of_getElem? (i := 2) rfl
theorem lk_X8_page_2 : Cond.fieldLink RX8 19 "BlackBars" "state" "LBlackBars$State;" ∈ wsX8_page := List.mem_of_getElem? (i := 3) rfl
theorem iw_X8_page_X5 : ∀ w ∈ wsX50, w ∈ wsX8_page := fun _ h => List.mem_cons_of_mem _ (List.mem_append_left _ (List.mem_append_left _ (List.mem_append_left _ (List.mem_append_left _ (List.mem_append_left _ (List.mem_append_left _ (List.mem_append_left _ (List.mem_append_right _ h))))))))
def f_X8_page (N : Nat) (C : kS) : Option (Int32 × kS) := (f_X6_faultIndex N C).bind (fun r2 => if r2 < 0 then (f_X2_keep N C).bind (fun C5 => (f_X7_empty N C5 5).bind (fun C7 => (f_X7_addWordsOf N C7 5).bind (fun C9 => (f_X8_workOut N C9).bind (fun C11 => (f_X7_size N C11 5).bind (fun r13 => some (r13, C11)))))) else some ((-12), C))
theorem hd_X8_page : kHd yX8_page 0 := by decide +kernel
set_option maxHeartbeats 4000000 in
set_option maxRecDepth 100000 in
theorem t_X8_page {g : kG} {cI cS : ClassId} {ad : Nat → Nat} (X : Kx g cI cS cX8_page RX8 wsX8_page 1 rm_X8_page) {r : Int32} {Cr : kS} (hI : kInj 132 ad) (Y : Kw g (WC cI cS ad) (kAd 132 ad)) (hR : kRI g (WC cI cS ad) 1 cX8_page .int Cr r) (N : Nat) (C : kS)   (hf : f_X8_page N C = some (r, Cr)) : J g (WC cI cS ad) 1 C 0 [some (.ref (ad 0))] [] := by
  unfold f_X8_page at hf
  refine j_aload_n (pc := 0) X dX8_page_0 rfl ?_
  refine j_get (pc := 1) X iw_X8_page_X8 (wc8 kd_0) rfl 0 (Nat.le_of_ble_eq_true rfl) lk_X8_page_0 (v := .ref (ad 1)) rfl dX8_page_1 ?_
  obtain ⟨r2, h1, hf⟩ := kB hf
  refine j_callI (pc := 4) X (c_X6_faultIndex N C  h1) gX8_page_X6_faultIndex rfl ⟨rfl, rfl⟩ rfl hd_X6_faultIndex ⟨(Nat.le_of_ble_eq_true rfl), (Nat.le_of_ble_eq_true rfl)⟩ (wc6 kd_1) rfl rfl rfl (Nat.le_of_ble_eq_true rfl) rfl dX8_page_4 ?_
  refine j_if_lt (tgt := 13) (pc := 7) X dX8_page_7 rfl (fun c3 => ?_) (fun c3 => ?_)
  · have hf := kT c3 hf
    refine j_aload_n (pc := 13) X dX8_page_13 rfl ?_
    refine j_get (pc := 14) X iw_X8_page_X8 (wc8 kd_0) rfl 2 (Nat.le_of_ble_eq_true rfl) lk_X8_page_1 (v := .ref (ad 24)) rfl dX8_page_14 ?_
    refine j_aload_n (pc := 17) X dX8_page_17 rfl ?_
    refine j_get (pc := 18) X iw_X8_page_X8 (wc8 kd_0) rfl 1 (Nat.le_of_ble_eq_true rfl) lk_X8_page_2 (v := .ref (ad 4)) rfl dX8_page_18 ?_
    obtain ⟨C5, h4, hf⟩ := kB hf
    refine j_callV (pc := 21) X Y (c_X2_keep hI N C  h4) gX8_page_X2_keep rfl ⟨rfl, rfl⟩ rfl hd_X2_keep ⟨(Nat.le_of_ble_eq_true rfl), (Nat.le_of_ble_eq_true rfl)⟩ (wc2 kd_24) rfl rfl rfl (Nat.le_of_ble_eq_true rfl) rfl dX8_page_21 ?_
    refine j_aload_n (pc := 24) X dX8_page_24 rfl ?_
    refine j_get (pc := 25) X iw_X8_page_X8 (wc8 kd_0) rfl 1 (Nat.le_of_ble_eq_true rfl) lk_X8_page_2 (v := .ref (ad 4)) rfl dX8_page_25 ?_
    refine j_getN (pc := 28) X iw_X8_page_X5 (wc5 kd_4) rfl 0 (Nat.le_of_ble_eq_true rfl) (List.mem_of_getElem? (i := 3) rfl) (v := .ref (ad 5)) rfl dX8_page_28 ?_
    obtain ⟨C7, h6, hf⟩ := kB hf
    refine j_callV (pc := 31) X Y (c_X7_empty hI N C5 5 (kd5_1 kd_4 : kd 5 = 7) h6) gX8_page_X7_empty rfl ⟨rfl, rfl⟩ rfl hd_X7_empty ⟨(Nat.le_of_ble_eq_true rfl), (Nat.le_of_ble_eq_true rfl)⟩ (wc7 (kd5_1 kd_4 : kd 5 = 7)) rfl rfl rfl (Nat.le_of_ble_eq_true rfl) rfl dX8_page_31 ?_
    refine j_aload_n (pc := 34) X dX8_page_34 rfl ?_
    refine j_get (pc := 35) X iw_X8_page_X8 (wc8 kd_0) rfl 1 (Nat.le_of_ble_eq_true rfl) lk_X8_page_2 (v := .ref (ad 4)) rfl dX8_page_35 ?_
    refine j_getN (pc := 38) X iw_X8_page_X5 (wc5 kd_4) rfl 0 (Nat.le_of_ble_eq_true rfl) (List.mem_of_getElem? (i := 3) rfl) (v := .ref (ad 5)) rfl dX8_page_38 ?_
    refine j_aload_n (pc := 41) X dX8_page_41 rfl ?_
    refine j_get (pc := 42) X iw_X8_page_X8 (wc8 kd_0) rfl 0 (Nat.le_of_ble_eq_true rfl) lk_X8_page_0 (v := .ref (ad 1)) rfl dX8_page_42 ?_
    obtain ⟨C9, h8, hf⟩ := kB hf
    refine j_callV (pc := 45) X Y (c_X7_addWordsOf hI N C7 5 (kd5_1 kd_4 : kd 5 = 7) h8) gX8_page_X7_addWordsOf rfl ⟨rfl, rfl⟩ rfl hd_X7_addWordsOf ⟨(Nat.le_of_ble_eq_true rfl), (Nat.le_of_ble_eq_true rfl)⟩ (wc7 (kd5_1 kd_4 : kd 5 = 7)) rfl rfl rfl (Nat.le_of_ble_eq_true rfl) rfl dX8_page_45 ?_
    refine j_aload_n (pc := 48) X dX8_page_48 rfl ?_
    obtain ⟨C11, h10, hf⟩ := kB hf
    refine j_callV (pc := 49) X Y (c_X8_workOut hI N C9  h10) gX8_page_X8_workOut rfl ⟨rfl, rfl⟩ rfl hd_X8_workOut ⟨(Nat.le_of_ble_eq_true rfl), (Nat.le_of_ble_eq_true rfl)⟩ (wc8 kd_0) rfl rfl rfl (Nat.le_of_ble_eq_true rfl) rfl dX8_page_49 ?_
    refine j_aload_n (pc := 52) X dX8_page_52 rfl ?_
    refine j_get (pc := 53) X iw_X8_page_X8 (wc8 kd_0) rfl 1 (Nat.le_of_ble_eq_true rfl) lk_X8_page_2 (v := .ref (ad 4)) rfl dX8_page_53 ?_
    refine j_getN (pc := 56) X iw_X8_page_X5 (wc5 kd_4) rfl 0 (Nat.le_of_ble_eq_true rfl) (List.mem_of_getElem? (i := 3) rfl) (v := .ref (ad 5)) rfl dX8_page_56 ?_
    obtain ⟨r13, h12, hf⟩ := kB hf
    refine j_callI (pc := 59) X (c_X7_size N C11 5 (kd5_1 kd_4 : kd 5 = 7) h12) gX8_page_X7_size rfl ⟨rfl, rfl⟩ rfl hd_X7_size ⟨(Nat.le_of_ble_eq_true rfl), (Nat.le_of_ble_eq_true rfl)⟩ (wc7 (kd5_1 kd_4 : kd 5 = 7)) rfl rfl rfl (Nat.le_of_ble_eq_true rfl) rfl dX8_page_59 ?_
    exact j_retW hR dX8_page_62 hf
  · have hf := kF c3 hf
    refine j_bipush (pc := 10) X dX8_page_10 kb_m12 ?_
    exact j_retW hR dX8_page_12 hf
theorem c_X8_page {l : Launch} {D : va_G} {cI cS : ClassId} {ad : Nat → Nat} (hI : kInj 132 ad) (N : Nat) (C : kS)  {r : Int32} {Cr : kS} (hf : f_X8_page N C = some (r, Cr)) : mW l yX8_page wsX8_page rm_X8_page D cI cS (WC cI cS ad) (kAd 132 ad) C [.ref (ad 0)] r Cr :=
  mW.of (by decide) rfl rfl (Nat.le_of_ble_eq_true rfl) (WC_D hI) (fun g X Y hR => t_X8_page X hI Y hR N C   hf)
abbrev rm_X8_tellsApart : Room := { frames := 2, cells := 0, slots := 0, locals := 42 }
theorem lk_X8_tellsApart_0 : Cond.fieldLink RX8 33 "BlackBars" "forms" "LBlackBars$Forms;" ∈ wsX8_tellsApart := List.mem_of_getElem? (i := 1) rfl
theorem iw_X8_tellsApart_X8 : ∀ w ∈ wsX80, w ∈ wsX8_tellsApart := fun _ h => List.mem_cons_of_mem _ (List.mem_append_left _ (List.mem_append_left _ (List.mem_append_left _ (List.mem_append_left _ (List.mem_append_right _ h)))))
theorem lk_X8_tellsApart_1 : Cond.fieldLink RX8 54 "BlackBars" "sheet" "LBlackBars$Sheet;" ∈ wsX8_tellsApart := List.mem_of_getElem? (i := 2) rfl
theorem lk_X8_tellsApart_2 : Cond.fieldLink RX8 42 "BlackBars" "bars" "LBlackBars$Bars;" ∈ wsX8_tellsApart := List.mem_of_getElem? (i := 3) rfl
def f_X8_tellsApart (N : Nat) (C : kS) (a1 : Int32) (a2 : Int32) (a3 : Int32) : Option (Int32) := (f_X4_formOf N C a1).bind (fun r2 => (f_X1_nameOf N C r2).bind (fun r4 => (f_X4_formOf N C a1).bind (fun r6 => (f_X1_endingOf N C r6).bind (fun r8 => jn ((f_X1_numberOf N C a2 r8).bind (fun r11 => (f_X0_widthOf N C 113 r11).bind (fun r13 => (f_X1_numberOf N C a3 r8).bind (fun r15 => (f_X0_widthOf N C 113 r15).bind (fun r17 => jn (fun (t18 : Int32) => some (t18 &&& 1)) (fun j98_18 => if r13 = r17 then j98_18 0 else j98_18 1)))))) (fun j48_8 => if r4 = a2 then j48_8 else if r4 = a3 then j48_8 else some ((0 : Int32) &&& 1))))))
theorem hd_X8_tellsApart : kHd yX8_tellsApart 3 := by decide +kernel
set_option maxHeartbeats 4000000 in
set_option maxRecDepth 100000 in
theorem t_X8_tellsApart {g : kG} {cI cS : ClassId} {ad : Nat → Nat} {C : kS} (X : Kx g cI cS cX8_tellsApart RX8 wsX8_tellsApart 8 rm_X8_tellsApart) {r : Int32} (hR : kRI g (WC cI cS ad) 8 cX8_tellsApart .boolean C r) (N : Nat) (a1 : Int32) (a2 : Int32) (a3 : Int32)  (hf : f_X8_tellsApart N C a1 a2 a3 = some r) : J g (WC cI cS ad) 8 C 0 [some (.ref (ad 0)), some (.int a1), some (.int a2), some (.int a3), none, none, none, none] [] := by
  unfold f_X8_tellsApart at hf
  refine j_aload_n (pc := 0) X dX8_tellsApart_0 rfl ?_
  refine j_get (pc := 1) X iw_X8_tellsApart_X8 (wc8 kd_0) rfl 3 (Nat.le_of_ble_eq_true rfl) lk_X8_tellsApart_0 (v := .ref (ad 106)) rfl dX8_tellsApart_1 ?_
  refine j_aload_n (pc := 4) X dX8_tellsApart_4 rfl ?_
  refine j_get (pc := 5) X iw_X8_tellsApart_X8 (wc8 kd_0) rfl 6 (Nat.le_of_ble_eq_true rfl) lk_X8_tellsApart_1 (v := .ref (ad 119)) rfl dX8_tellsApart_5 ?_
  refine j_iload_n (pc := 8) X dX8_tellsApart_8 rfl ?_
  obtain ⟨r2, h1, hf⟩ := kB hf
  refine j_callI (pc := 9) X (c_X4_formOf N C a1 h1) gX8_tellsApart_X4_formOf rfl ⟨rfl, rfl⟩ rfl hd_X4_formOf ⟨(Nat.le_of_ble_eq_true rfl), (Nat.le_of_ble_eq_true rfl)⟩ (wc4 kd_119) rfl rfl rfl (Nat.le_of_ble_eq_true rfl) rfl dX8_tellsApart_9 ?_
  obtain ⟨r4, h3, hf⟩ := kB hf
  refine j_callI (pc := 12) X (c_X1_nameOf N C r2 h3) gX8_tellsApart_X1_nameOf rfl ⟨rfl, rfl⟩ rfl hd_X1_nameOf ⟨(Nat.le_of_ble_eq_true rfl), (Nat.le_of_ble_eq_true rfl)⟩ (wc1 kd_106) rfl rfl rfl (Nat.le_of_ble_eq_true rfl) rfl dX8_tellsApart_12 ?_
  refine j_istore (pc := 15) X dX8_tellsApart_15 (Nat.le_of_ble_eq_true rfl) (lv' := [some (.ref (ad 0)), some (.int a1), some (.int a2), some (.int a3), some (.int r4), none, none, none]) rfl ?_
  refine j_aload_n (pc := 17) X dX8_tellsApart_17 rfl ?_
  refine j_get (pc := 18) X iw_X8_tellsApart_X8 (wc8 kd_0) rfl 3 (Nat.le_of_ble_eq_true rfl) lk_X8_tellsApart_0 (v := .ref (ad 106)) rfl dX8_tellsApart_18 ?_
  refine j_aload_n (pc := 21) X dX8_tellsApart_21 rfl ?_
  refine j_get (pc := 22) X iw_X8_tellsApart_X8 (wc8 kd_0) rfl 6 (Nat.le_of_ble_eq_true rfl) lk_X8_tellsApart_1 (v := .ref (ad 119)) rfl dX8_tellsApart_22 ?_
  refine j_iload_n (pc := 25) X dX8_tellsApart_25 rfl ?_
  obtain ⟨r6, h5, hf⟩ := kB hf
  refine j_callI (pc := 26) X (c_X4_formOf N C a1 h5) gX8_tellsApart_X4_formOf rfl ⟨rfl, rfl⟩ rfl hd_X4_formOf ⟨(Nat.le_of_ble_eq_true rfl), (Nat.le_of_ble_eq_true rfl)⟩ (wc4 kd_119) rfl rfl rfl (Nat.le_of_ble_eq_true rfl) rfl dX8_tellsApart_26 ?_
  obtain ⟨r8, h7, hf⟩ := kB hf
  refine j_callI (pc := 29) X (c_X1_endingOf N C r6 h7) gX8_tellsApart_X1_endingOf rfl ⟨rfl, rfl⟩ rfl hd_X1_endingOf ⟨(Nat.le_of_ble_eq_true rfl), (Nat.le_of_ble_eq_true rfl)⟩ (wc1 kd_106) rfl rfl rfl (Nat.le_of_ble_eq_true rfl) rfl dX8_tellsApart_29 ?_
  refine j_istore (pc := 32) X dX8_tellsApart_32 (Nat.le_of_ble_eq_true rfl) (lv' := [some (.ref (ad 0)), some (.int a1), some (.int a2), some (.int a3), some (.int r4), some (.int r8), none, none]) rfl ?_
  refine j_iload (pc := 34) X dX8_tellsApart_34 rfl ?_
  refine j_iload_n (pc := 36) X dX8_tellsApart_36 rfl ?_
  obtain ⟨j48_8, ej48_8, hf⟩ := jn_s hf
  have hj48_8 : ∀ (_ : Unit), j48_8 = some r → J g (WC cI cS ad) 8 C 48 [some (.ref (ad 0)), some (.int a1), some (.int a2), some (.int a3), some (.int r4), some (.int r8), none, none] [] := by
    intro _ hf
    have hf := jE0 ej48_8 hf
    refine j_aload_n (pc := 48) X dX8_tellsApart_48 rfl ?_
    refine j_get (pc := 49) X iw_X8_tellsApart_X8 (wc8 kd_0) rfl 4 (Nat.le_of_ble_eq_true rfl) lk_X8_tellsApart_2 (v := .ref (ad 113)) rfl dX8_tellsApart_49 ?_
    refine j_aload_n (pc := 52) X dX8_tellsApart_52 rfl ?_
    refine j_get (pc := 53) X iw_X8_tellsApart_X8 (wc8 kd_0) rfl 3 (Nat.le_of_ble_eq_true rfl) lk_X8_tellsApart_0 (v := .ref (ad 106)) rfl dX8_tellsApart_53 ?_
    refine j_iload_n (pc := 56) X dX8_tellsApart_56 rfl ?_
    refine j_iload (pc := 57) X dX8_tellsApart_57 rfl ?_
    obtain ⟨r11, h10, hf⟩ := kB hf
    refine j_callI (pc := 59) X (c_X1_numberOf N C a2 r8 h10) gX8_tellsApart_X1_numberOf rfl ⟨rfl, rfl⟩ rfl hd_X1_numberOf ⟨(Nat.le_of_ble_eq_true rfl), (Nat.le_of_ble_eq_true rfl)⟩ (wc1 kd_106) rfl rfl rfl (Nat.le_of_ble_eq_true rfl) rfl dX8_tellsApart_59 ?_
    obtain ⟨r13, h12, hf⟩ := kB hf
    refine j_callI (pc := 62) X (c_X0_widthOf N C 113 kd_113 r11 h12) gX8_tellsApart_X0_widthOf rfl ⟨rfl, rfl⟩ rfl hd_X0_widthOf ⟨(Nat.le_of_ble_eq_true rfl), (Nat.le_of_ble_eq_true rfl)⟩ (wc0 kd_113) rfl rfl rfl (Nat.le_of_ble_eq_true rfl) rfl dX8_tellsApart_62 ?_
    refine j_istore (pc := 65) X dX8_tellsApart_65 (Nat.le_of_ble_eq_true rfl) (lv' := [some (.ref (ad 0)), some (.int a1), some (.int a2), some (.int a3), some (.int r4), some (.int r8), some (.int r13), none]) rfl ?_
    refine j_aload_n (pc := 67) X dX8_tellsApart_67 rfl ?_
    refine j_get (pc := 68) X iw_X8_tellsApart_X8 (wc8 kd_0) rfl 4 (Nat.le_of_ble_eq_true rfl) lk_X8_tellsApart_2 (v := .ref (ad 113)) rfl dX8_tellsApart_68 ?_
    refine j_aload_n (pc := 71) X dX8_tellsApart_71 rfl ?_
    refine j_get (pc := 72) X iw_X8_tellsApart_X8 (wc8 kd_0) rfl 3 (Nat.le_of_ble_eq_true rfl) lk_X8_tellsApart_0 (v := .ref (ad 106)) rfl dX8_tellsApart_72 ?_
    refine j_iload_n (pc := 75) X dX8_tellsApart_75 rfl ?_
    refine j_iload (pc := 76) X dX8_tellsApart_76 rfl ?_
    obtain ⟨r15, h14, hf⟩ := kB hf
    refine j_callI (pc := 78) X (c_X1_numberOf N C a3 r8 h14) gX8_tellsApart_X1_numberOf rfl ⟨rfl, rfl⟩ rfl hd_X1_numberOf ⟨(Nat.le_of_ble_eq_true rfl), (Nat.le_of_ble_eq_true rfl)⟩ (wc1 kd_106) rfl rfl rfl (Nat.le_of_ble_eq_true rfl) rfl dX8_tellsApart_78 ?_
    obtain ⟨r17, h16, hf⟩ := kB hf
    refine j_callI (pc := 81) X (c_X0_widthOf N C 113 kd_113 r15 h16) gX8_tellsApart_X0_widthOf rfl ⟨rfl, rfl⟩ rfl hd_X0_widthOf ⟨(Nat.le_of_ble_eq_true rfl), (Nat.le_of_ble_eq_true rfl)⟩ (wc0 kd_113) rfl rfl rfl (Nat.le_of_ble_eq_true rfl) rfl dX8_tellsApart_81 ?_
    refine j_istore (pc := 84) X dX8_tellsApart_84 (Nat.le_of_ble_eq_true rfl) (lv' := [some (.ref (ad 0)), some (.int a1), some (.int a2), some (.int a3), some (.int r4), some (.int r8), some (.int r13), some (.int r17)]) rfl ?_
    refine j_iload (pc := 86) X dX8_tellsApart_86 rfl ?_
    refine j_iload (pc := 88) X dX8_tellsApart_88 rfl ?_
    obtain ⟨j98_18, ej98_18, hf⟩ := jn_s hf
    have hj98_18 : ∀ (t18 : Int32), j98_18 t18 = some r → J g (WC cI cS ad) 8 C 98 [some (.ref (ad 0)), some (.int a1), some (.int a2), some (.int a3), some (.int r4), some (.int r8), some (.int r13), some (.int r17)] [.int t18] := by
      intro t18 hf
      have hf := jE1 ej98_18 hf
      exact j_retB hR dX8_tellsApart_98 hf
    refine j_icmp_eq (tgt := 97) (pc := 90) X dX8_tellsApart_90 rfl (fun c20 => ?_) (fun c20 => ?_)
    · have hf := kT c20 hf
      refine j_iconst (pc := 97) X dX8_tellsApart_97 kc_0 ?_
      exact hj98_18 _ hf
    · have hf := kF c20 hf
      refine j_iconst (pc := 93) X dX8_tellsApart_93 kc_1 ?_
      refine j_goto (tgt := 98) (pc := 94) X dX8_tellsApart_94 rfl ?_
      exact hj98_18 _ hf
  refine j_icmp_eq (tgt := 48) (pc := 37) X dX8_tellsApart_37 rfl (fun c21 => ?_) (fun c21 => ?_)
  · have hf := kT c21 hf
    exact hj48_8 () hf
  · have hf := kF c21 hf
    refine j_iload (pc := 40) X dX8_tellsApart_40 rfl ?_
    refine j_iload_n (pc := 42) X dX8_tellsApart_42 rfl ?_
    refine j_icmp_eq (tgt := 48) (pc := 43) X dX8_tellsApart_43 rfl (fun c22 => ?_) (fun c22 => ?_)
    · have hf := kT c22 hf
      exact hj48_8 () hf
    · have hf := kF c22 hf
      refine j_iconst (pc := 46) X dX8_tellsApart_46 kc_0 ?_
      exact j_retB hR dX8_tellsApart_47 hf
theorem c_X8_tellsApart {l : Launch} {D : va_G} {cI cS : ClassId} {ad : Nat → Nat} (N : Nat) (C : kS) (a1 : Int32) (a2 : Int32) (a3 : Int32) {r : Int32} (hf : f_X8_tellsApart N C a1 a2 a3 = some r) : mI l yX8_tellsApart wsX8_tellsApart rm_X8_tellsApart D cI cS (WC cI cS ad) C [.ref (ad 0), .int a1, .int a2, .int a3] r :=
  mI.of (by decide) rfl rfl (Nat.le_of_ble_eq_true rfl) (fun g X hR => t_X8_tellsApart X  hR N a1 a2 a3  hf)
