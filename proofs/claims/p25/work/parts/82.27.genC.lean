abbrev rm_X8_hiddenWord : Room := { frames := 2, cells := 0, slots := 0, locals := 44 }
theorem lk_X8_hiddenWord_0 : Cond.fieldLink RX8 54 "BlackBars" "sheet" "LBlackBars$Sheet;" ∈ wsX8_hiddenWord := List.mem_of_getElem? (i := 1) rfl
theorem iw_X8_hiddenWord_X8 : ∀ w ∈ wsX80, w ∈ wsX8_hiddenWord := fun _ h => List.mem_cons_of_mem _ (List.mem_append_left _ (List.mem_append_left _ (List.mem_append_left _ (List.mem_append_left _ (List.mem_append_right _ h)))))
theorem lk_X8_hiddenWord_1 : Cond.fieldLink RX8 42 "BlackBars" "bars" "LBlackBars$Bars;" ∈ wsX8_hiddenWord := List.mem_of_getElem? (i := 2) rfl
theorem lk_X8_hiddenWord_2 : Cond.fieldLink RX8 33 "BlackBars" "forms" "LBlackBars$Forms;" ∈ wsX8_hiddenWord := List.mem_of_getElem? (i := 3) rfl
theorem hd_X8_hiddenWord : kHd yX8_hiddenWord 2 := by decide +kernel
set_option maxHeartbeats 4000000 in
set_option maxRecDepth 100000 in
theorem t_X8_hiddenWord {g : kG} {cI cS : ClassId} {ad : Nat → Nat} {C : kS} (X : Kx g cI cS cX8_hiddenWord RX8 wsX8_hiddenWord 4 rm_X8_hiddenWord) {r : Int32} (hR : kRI g (WC cI cS ad) 4 cX8_hiddenWord .int C r) (N : Nat) (a1 : Int32) (a2 : Int32)  (hf : f_X8_hiddenWord N C a1 a2 = some r) : J g (WC cI cS ad) 4 C 0 [some (.ref (ad 0)), some (.int a1), some (.int a2), none] [] := by
  unfold f_X8_hiddenWord at hf
  refine j_aload_n (pc := 0) X dX8_hiddenWord_0 rfl ?_
  refine j_get (pc := 1) X iw_X8_hiddenWord_X8 (wc8 kd_0) rfl 6 (Nat.le_of_ble_eq_true rfl) lk_X8_hiddenWord_0 (v := .ref (ad 119)) rfl dX8_hiddenWord_1 ?_
  refine j_iload_n (pc := 4) X dX8_hiddenWord_4 rfl ?_
  obtain ⟨r2, h1, hf⟩ := kB hf
  refine j_callI (pc := 5) X (c_X4_isHidden N C a1 h1) gX8_hiddenWord_X4_isHidden rfl ⟨rfl, rfl⟩ rfl hd_X4_isHidden ⟨(Nat.le_of_ble_eq_true rfl), (Nat.le_of_ble_eq_true rfl)⟩ (wc4 kd_119) rfl rfl rfl (Nat.le_of_ble_eq_true rfl) rfl dX8_hiddenWord_5 ?_
  refine j_if_ne (tgt := 14) (pc := 8) X dX8_hiddenWord_8 rfl (fun c3 => ?_) (fun c3 => ?_)
  · have hf := kF c3 hf
    refine j_aload_n (pc := 14) X dX8_hiddenWord_14 rfl ?_
    refine j_get (pc := 15) X iw_X8_hiddenWord_X8 (wc8 kd_0) rfl 4 (Nat.le_of_ble_eq_true rfl) lk_X8_hiddenWord_1 (v := .ref (ad 113)) rfl dX8_hiddenWord_15 ?_
    refine j_aload_n (pc := 18) X dX8_hiddenWord_18 rfl ?_
    refine j_get (pc := 19) X iw_X8_hiddenWord_X8 (wc8 kd_0) rfl 6 (Nat.le_of_ble_eq_true rfl) lk_X8_hiddenWord_0 (v := .ref (ad 119)) rfl dX8_hiddenWord_19 ?_
    refine j_iload_n (pc := 22) X dX8_hiddenWord_22 rfl ?_
    obtain ⟨r5, h4, hf⟩ := kB hf
    refine j_callI (pc := 23) X (c_X4_shownWidthOf N C a1 h4) gX8_hiddenWord_X4_shownWidthOf rfl ⟨rfl, rfl⟩ rfl hd_X4_shownWidthOf ⟨(Nat.le_of_ble_eq_true rfl), (Nat.le_of_ble_eq_true rfl)⟩ (wc4 kd_119) rfl rfl rfl (Nat.le_of_ble_eq_true rfl) rfl dX8_hiddenWord_23 ?_
    obtain ⟨r7, h6, hf⟩ := kB hf
    refine j_callI (pc := 26) X (c_X0_namesUnder N C 113 kd_113 r5 h6) gX8_hiddenWord_X0_namesUnder rfl ⟨rfl, rfl⟩ rfl hd_X0_namesUnder ⟨(Nat.le_of_ble_eq_true rfl), (Nat.le_of_ble_eq_true rfl)⟩ (wc0 kd_113) rfl rfl rfl (Nat.le_of_ble_eq_true rfl) rfl dX8_hiddenWord_26 ?_
    refine j_istore_n (pc := 29) X dX8_hiddenWord_29 (Nat.le_of_ble_eq_true rfl) (lv' := [some (.ref (ad 0)), some (.int a1), some (.int a2), some (.int r7)]) rfl ?_
    refine j_iload_n (pc := 30) X dX8_hiddenWord_30 rfl ?_
    rcases Decidable.em (a2 = 4) with c8 | c8
    · have hf := kT c8 hf
      refine j_tabIn (v := 4) (off := 33) (tgt := 64) (pc := 31) X dX8_hiddenWord_31 c8 (by decide) (by decide) (by decide) rfl ?_
      refine j_aload_n (pc := 64) X dX8_hiddenWord_64 rfl ?_
      refine j_get (pc := 65) X iw_X8_hiddenWord_X8 (wc8 kd_0) rfl 3 (Nat.le_of_ble_eq_true rfl) lk_X8_hiddenWord_2 (v := .ref (ad 106)) rfl dX8_hiddenWord_65 ?_
      refine j_aload_n (pc := 68) X dX8_hiddenWord_68 rfl ?_
      refine j_get (pc := 69) X iw_X8_hiddenWord_X8 (wc8 kd_0) rfl 6 (Nat.le_of_ble_eq_true rfl) lk_X8_hiddenWord_0 (v := .ref (ad 119)) rfl dX8_hiddenWord_69 ?_
      refine j_iload_n (pc := 72) X dX8_hiddenWord_72 rfl ?_
      obtain ⟨r10, h9, hf⟩ := kB hf
      refine j_callI (pc := 73) X (c_X4_formOf N C a1 h9) gX8_hiddenWord_X4_formOf rfl ⟨rfl, rfl⟩ rfl hd_X4_formOf ⟨(Nat.le_of_ble_eq_true rfl), (Nat.le_of_ble_eq_true rfl)⟩ (wc4 kd_119) rfl rfl rfl (Nat.le_of_ble_eq_true rfl) rfl dX8_hiddenWord_73 ?_
      obtain ⟨r12, h11, hf⟩ := kB hf
      refine j_callI (pc := 76) X (c_X1_nameOf N C r10 h11) gX8_hiddenWord_X1_nameOf rfl ⟨rfl, rfl⟩ rfl hd_X1_nameOf ⟨(Nat.le_of_ble_eq_true rfl), (Nat.le_of_ble_eq_true rfl)⟩ (wc1 kd_106) rfl rfl rfl (Nat.le_of_ble_eq_true rfl) rfl dX8_hiddenWord_76 ?_
      exact j_retI hR dX8_hiddenWord_79 hf
    · have hf := kF c8 hf
      rcases Decidable.em (a2 = 5) with c13 | c13
      · have hf := kT c13 hf
        refine j_tabIn (v := 5) (off := 49) (tgt := 80) (pc := 31) X dX8_hiddenWord_31 c13 (by decide) (by decide) (by decide) rfl ?_
        refine j_aload_n (pc := 80) X dX8_hiddenWord_80 rfl ?_
        refine j_get (pc := 81) X iw_X8_hiddenWord_X8 (wc8 kd_0) rfl 3 (Nat.le_of_ble_eq_true rfl) lk_X8_hiddenWord_2 (v := .ref (ad 106)) rfl dX8_hiddenWord_81 ?_
        refine j_aload_n (pc := 84) X dX8_hiddenWord_84 rfl ?_
        refine j_get (pc := 85) X iw_X8_hiddenWord_X8 (wc8 kd_0) rfl 6 (Nat.le_of_ble_eq_true rfl) lk_X8_hiddenWord_0 (v := .ref (ad 119)) rfl dX8_hiddenWord_85 ?_
        refine j_iload_n (pc := 88) X dX8_hiddenWord_88 rfl ?_
        obtain ⟨r15, h14, hf⟩ := kB hf
        refine j_callI (pc := 89) X (c_X4_formOf N C a1 h14) gX8_hiddenWord_X4_formOf rfl ⟨rfl, rfl⟩ rfl hd_X4_formOf ⟨(Nat.le_of_ble_eq_true rfl), (Nat.le_of_ble_eq_true rfl)⟩ (wc4 kd_119) rfl rfl rfl (Nat.le_of_ble_eq_true rfl) rfl dX8_hiddenWord_89 ?_
        obtain ⟨r17, h16, hf⟩ := kB hf
        refine j_callI (pc := 92) X (c_X1_endingOf N C r15 h16) gX8_hiddenWord_X1_endingOf rfl ⟨rfl, rfl⟩ rfl hd_X1_endingOf ⟨(Nat.le_of_ble_eq_true rfl), (Nat.le_of_ble_eq_true rfl)⟩ (wc1 kd_106) rfl rfl rfl (Nat.le_of_ble_eq_true rfl) rfl dX8_hiddenWord_92 ?_
        exact j_retI hR dX8_hiddenWord_95 hf
      · have hf := kF c13 hf
        rcases Decidable.em (a2 = 6) with c18 | c18
        · have hf := kT c18 hf
          refine j_tabIn (v := 6) (off := 67) (tgt := 98) (pc := 31) X dX8_hiddenWord_31 c18 (by decide) (by decide) (by decide) rfl ?_
          refine j_iload_n (pc := 98) X dX8_hiddenWord_98 rfl ?_
          obtain ⟨r20, h19, hf⟩ := kB hf
          refine j_callP (pc := 99) X (c_J6_bitCount_0f7a4 N r7 h19) gX8_hiddenWord_J6_bitCount_0f7a4 rfl ⟨rfl, rfl⟩ hd_J6_bitCount_0f7a4 ⟨(Nat.le_of_ble_eq_true rfl), (Nat.le_of_ble_eq_true rfl)⟩ rfl (Nat.le_of_ble_eq_true rfl) rfl dX8_hiddenWord_99 ?_
          exact j_retI hR dX8_hiddenWord_102 hf
        · have hf := kF c18 hf
          rcases Decidable.em (a2 = 7) with c21 | c21
          · have hf := kT c21 hf
            refine j_tabIn (v := 7) (off := 67) (tgt := 98) (pc := 31) X dX8_hiddenWord_31 c21 (by decide) (by decide) (by decide) rfl ?_
            refine j_iload_n (pc := 98) X dX8_hiddenWord_98 rfl ?_
            obtain ⟨r23, h22, hf⟩ := kB hf
            refine j_callP (pc := 99) X (c_J6_bitCount_0f7a4 N r7 h22) gX8_hiddenWord_J6_bitCount_0f7a4 rfl ⟨rfl, rfl⟩ hd_J6_bitCount_0f7a4 ⟨(Nat.le_of_ble_eq_true rfl), (Nat.le_of_ble_eq_true rfl)⟩ rfl (Nat.le_of_ble_eq_true rfl) rfl dX8_hiddenWord_99 ?_
            exact j_retI hR dX8_hiddenWord_102 hf
          · have hf := kF c21 hf
            rcases Decidable.em (a2 = 8) with c24 | c24
            · have hf := kT c24 hf
              refine j_tabIn (v := 8) (off := 65) (tgt := 96) (pc := 31) X dX8_hiddenWord_31 c24 (by decide) (by decide) (by decide) rfl ?_
              refine j_iload_n (pc := 96) X dX8_hiddenWord_96 rfl ?_
              exact j_retI hR dX8_hiddenWord_97 hf
            · have hf := kF c24 hf
              refine j_tabOut (tgt := 98) (pc := 31) X dX8_hiddenWord_31 (by have gc8 := lv_neT (a := 4) c8 (by decide); have gc13 := lv_neT (a := 5) c13 (by decide); have gc18 := lv_neT (a := 6) c18 (by decide); have gc21 := lv_neT (a := 7) c21 (by decide); have gc24 := lv_neT (a := 8) c24 (by decide); omega) rfl ?_
              refine j_iload_n (pc := 98) X dX8_hiddenWord_98 rfl ?_
              obtain ⟨r26, h25, hf⟩ := kB hf
              refine j_callP (pc := 99) X (c_J6_bitCount_0f7a4 N r7 h25) gX8_hiddenWord_J6_bitCount_0f7a4 rfl ⟨rfl, rfl⟩ hd_J6_bitCount_0f7a4 ⟨(Nat.le_of_ble_eq_true rfl), (Nat.le_of_ble_eq_true rfl)⟩ rfl (Nat.le_of_ble_eq_true rfl) rfl dX8_hiddenWord_99 ?_
              exact j_retI hR dX8_hiddenWord_102 hf
  · have hf := kT c3 hf
    refine j_bipush (pc := 11) X dX8_hiddenWord_11 kb_m14 ?_
    exact j_retI hR dX8_hiddenWord_13 hf
theorem c_X8_hiddenWord {l : Launch} {D : va_G} {cI cS : ClassId} {ad : Nat → Nat} (N : Nat) (C : kS) (a1 : Int32) (a2 : Int32) {r : Int32} (hf : f_X8_hiddenWord N C a1 a2 = some r) : mI l yX8_hiddenWord wsX8_hiddenWord rm_X8_hiddenWord D cI cS (WC cI cS ad) C [.ref (ad 0), .int a1, .int a2] r :=
  mI.of (by decide) rfl rfl (Nat.le_of_ble_eq_true rfl) (fun g X hR => t_X8_hiddenWord X  hR N a1 a2  hf)
abbrev rm_X8_letter : Room := { frames := 2, cells := 0, slots := 0, locals := 43 }
theorem lk_X8_letter_0 : Cond.fieldLink RX8 19 "BlackBars" "state" "LBlackBars$State;" ∈ wsX8_letter := List.mem_of_getElem? (i := 1) rfl
theorem iw_X8_letter_X8 : ∀ w ∈ wsX80, w ∈ wsX8_letter := fun _ h => List.mem_cons_of_mem _ (List.mem_append_left _ (List.mem_append_left _ (List.mem_append_left _ (List.mem_append_left _ (List.mem_append_right _ h)))))
theorem iw_X8_letter_X5 : ∀ w ∈ wsX50, w ∈ wsX8_letter := fun _ h => List.mem_cons_of_mem _ (List.mem_append_left _ (List.mem_append_left _ (List.mem_append_left _ (List.mem_append_right _ h))))
theorem lk_X8_letter_1 : Cond.fieldLink RX8 54 "BlackBars" "sheet" "LBlackBars$Sheet;" ∈ wsX8_letter := List.mem_of_getElem? (i := 2) rfl
theorem hd_X8_letter : kHd yX8_letter 2 := by decide +kernel
set_option maxHeartbeats 4000000 in
set_option maxRecDepth 100000 in
theorem t_X8_letter {g : kG} {cI cS : ClassId} {ad : Nat → Nat} {C : kS} (X : Kx g cI cS cX8_letter RX8 wsX8_letter 3 rm_X8_letter) {r : Int32} (hR : kRI g (WC cI cS ad) 3 cX8_letter .int C r) (N : Nat) (a1 : Int32) (a2 : Int32)  (hf : f_X8_letter N C a1 a2 = some r) : J g (WC cI cS ad) 3 C 0 [some (.ref (ad 0)), some (.int a1), some (.int a2)] [] := by
  unfold f_X8_letter at hf
  refine j_aload_n (pc := 0) X dX8_letter_0 rfl ?_
  refine j_get (pc := 1) X iw_X8_letter_X8 (wc8 kd_0) rfl 1 (Nat.le_of_ble_eq_true rfl) lk_X8_letter_0 (v := .ref (ad 4)) rfl dX8_letter_1 ?_
  refine j_getN (pc := 4) X iw_X8_letter_X5 (wc5 kd_4) rfl 0 (Nat.le_of_ble_eq_true rfl) (List.mem_of_getElem? (i := 3) rfl) (v := .ref (ad 5)) rfl dX8_letter_4 ?_
  refine j_iload_n (pc := 7) X dX8_letter_7 rfl ?_
  obtain ⟨r2, h1, hf⟩ := kB hf
  refine j_callI (pc := 8) X (c_X7_has N C 5 (kd5_1 kd_4 : kd 5 = 7) a1 h1) gX8_letter_X7_has rfl ⟨rfl, rfl⟩ rfl hd_X7_has ⟨(Nat.le_of_ble_eq_true rfl), (Nat.le_of_ble_eq_true rfl)⟩ (wc7 (kd5_1 kd_4 : kd 5 = 7)) rfl rfl rfl (Nat.le_of_ble_eq_true rfl) rfl dX8_letter_8 ?_
  refine j_if_eq (tgt := 18) (pc := 11) X dX8_letter_11 rfl (fun c3 => ?_) (fun c3 => ?_)
  · have hf := kT c3 hf
    refine j_bipush (pc := 18) X dX8_letter_18 kb_m11 ?_
    exact j_retI hR dX8_letter_20 hf
  · have hf := kF c3 hf
    refine j_iload_n (pc := 14) X dX8_letter_14 rfl ?_
    refine j_if_ge (tgt := 21) (pc := 15) X dX8_letter_15 rfl (fun c4 => ?_) (fun c4 => ?_)
    · have hf := kT c4 hf
      refine j_aload_n (pc := 21) X dX8_letter_21 rfl ?_
      refine j_get (pc := 22) X iw_X8_letter_X8 (wc8 kd_0) rfl 6 (Nat.le_of_ble_eq_true rfl) lk_X8_letter_1 (v := .ref (ad 119)) rfl dX8_letter_22 ?_
      refine j_iload_n (pc := 25) X dX8_letter_25 rfl ?_
      obtain ⟨r6, h5, hf⟩ := kB hf
      refine j_callI (pc := 26) X (c_X4_isHidden N C a1 h5) gX8_letter_X4_isHidden rfl ⟨rfl, rfl⟩ rfl hd_X4_isHidden ⟨(Nat.le_of_ble_eq_true rfl), (Nat.le_of_ble_eq_true rfl)⟩ (wc4 kd_119) rfl rfl rfl (Nat.le_of_ble_eq_true rfl) rfl dX8_letter_26 ?_
      refine j_if_eq (tgt := 35) (pc := 29) X dX8_letter_29 rfl (fun c7 => ?_) (fun c7 => ?_)
      · have hf := kT c7 hf
        refine j_iload_n (pc := 35) X dX8_letter_35 rfl ?_
        refine j_aload_n (pc := 36) X dX8_letter_36 rfl ?_
        refine j_get (pc := 37) X iw_X8_letter_X8 (wc8 kd_0) rfl 1 (Nat.le_of_ble_eq_true rfl) lk_X8_letter_0 (v := .ref (ad 4)) rfl dX8_letter_37 ?_
        refine j_getN (pc := 40) X iw_X8_letter_X5 (wc5 kd_4) rfl 0 (Nat.le_of_ble_eq_true rfl) (List.mem_of_getElem? (i := 3) rfl) (v := .ref (ad 5)) rfl dX8_letter_40 ?_
        refine j_iload_n (pc := 43) X dX8_letter_43 rfl ?_
        obtain ⟨r9, h8, hf⟩ := kB hf
        refine j_callI (pc := 44) X (c_X7_lengthOf N C 5 (kd5_1 kd_4 : kd 5 = 7) a1 h8) gX8_letter_X7_lengthOf rfl ⟨rfl, rfl⟩ rfl hd_X7_lengthOf ⟨(Nat.le_of_ble_eq_true rfl), (Nat.le_of_ble_eq_true rfl)⟩ (wc7 (kd5_1 kd_4 : kd 5 = 7)) rfl rfl rfl (Nat.le_of_ble_eq_true rfl) rfl dX8_letter_44 ?_
        refine j_icmp_lt (tgt := 53) (pc := 47) X dX8_letter_47 rfl (fun c10 => ?_) (fun c10 => ?_)
        · have hf := kT c10 hf
          refine j_aload_n (pc := 53) X dX8_letter_53 rfl ?_
          refine j_get (pc := 54) X iw_X8_letter_X8 (wc8 kd_0) rfl 1 (Nat.le_of_ble_eq_true rfl) lk_X8_letter_0 (v := .ref (ad 4)) rfl dX8_letter_54 ?_
          refine j_getN (pc := 57) X iw_X8_letter_X5 (wc5 kd_4) rfl 0 (Nat.le_of_ble_eq_true rfl) (List.mem_of_getElem? (i := 3) rfl) (v := .ref (ad 5)) rfl dX8_letter_57 ?_
          refine j_iload_n (pc := 60) X dX8_letter_60 rfl ?_
          refine j_iload_n (pc := 61) X dX8_letter_61 rfl ?_
          obtain ⟨r12, h11, hf⟩ := kB hf
          refine j_callI (pc := 62) X (c_X7_letterOf N C 5 (kd5_1 kd_4 : kd 5 = 7) a1 a2 h11) gX8_letter_X7_letterOf rfl ⟨rfl, rfl⟩ rfl hd_X7_letterOf ⟨(Nat.le_of_ble_eq_true rfl), (Nat.le_of_ble_eq_true rfl)⟩ (wc7 (kd5_1 kd_4 : kd 5 = 7)) rfl rfl rfl (Nat.le_of_ble_eq_true rfl) rfl dX8_letter_62 ?_
          exact j_retI hR dX8_letter_65 hf
        · have hf := kF c10 hf
          refine j_bipush (pc := 50) X dX8_letter_50 kb_m14 ?_
          exact j_retI hR dX8_letter_52 hf
      · have hf := kF c7 hf
        refine j_bipush (pc := 32) X dX8_letter_32 kb_m12 ?_
        exact j_retI hR dX8_letter_34 hf
    · have hf := kF c4 hf
      refine j_bipush (pc := 18) X dX8_letter_18 kb_m11 ?_
      exact j_retI hR dX8_letter_20 hf
theorem c_X8_letter {l : Launch} {D : va_G} {cI cS : ClassId} {ad : Nat → Nat} (N : Nat) (C : kS) (a1 : Int32) (a2 : Int32) {r : Int32} (hf : f_X8_letter N C a1 a2 = some r) : mI l yX8_letter wsX8_letter rm_X8_letter D cI cS (WC cI cS ad) C [.ref (ad 0), .int a1, .int a2] r :=
  mI.of (by decide) rfl rfl (Nat.le_of_ble_eq_true rfl) (fun g X hR => t_X8_letter X  hR N a1 a2  hf)
abbrev rm_X8_line : Room := { frames := 3, cells := 0, slots := 0, locals := 66 }
theorem lk_X8_line_0 : Cond.fieldLink RX8 54 "BlackBars" "sheet" "LBlackBars$Sheet;" ∈ wsX8_line := List.mem_of_getElem? (i := 1) rfl
theorem iw_X8_line_X8 : ∀ w ∈ wsX80, w ∈ wsX8_line := fun _ h => List.mem_cons_of_mem _ (List.mem_append_left _ (List.mem_append_left _ (List.mem_append_left _ (List.mem_append_left _ (List.mem_append_right _ h)))))
theorem lk_X8_line_1 : Cond.fieldLink RX8 19 "BlackBars" "state" "LBlackBars$State;" ∈ wsX8_line := List.mem_of_getElem? (i := 2) rfl
theorem iw_X8_line_X5 : ∀ w ∈ wsX50, w ∈ wsX8_line := fun _ h => List.mem_cons_of_mem _ (List.mem_append_left _ (List.mem_append_left _ (List.mem_append_left _ (List.mem_append_right _ h))))
theorem lk_X8_line_2 : Cond.methodLink RX8 197 Lib.Math.max.name ∈ wsX8_line := List.mem_of_getElem? (i := 3) rfl
theorem lk_X8_line_3 : Cond.static Lib.Math.max.name ∈ wsX8_line := List.mem_of_getElem? (i := 4) rfl
theorem lk_X8_line_4 : Cond.initialized "java/lang/Math" ∈ wsX8_line := List.mem_of_getElem? (i := 5) rfl
theorem lk_X8_line_5 : Cond.code Lib.Math.max.name Lib.Math.max.code 2 (some .int) ∈ wsX8_line := List.mem_of_getElem? (i := 6) rfl
theorem hd_X8_line : kHd yX8_line 2 := by decide +kernel
set_option maxHeartbeats 4000000 in
set_option maxRecDepth 100000 in
theorem t_X8_line {g : kG} {cI cS : ClassId} {ad : Nat → Nat} {C : kS} (X : Kx g cI cS cX8_line RX8 wsX8_line 5 rm_X8_line) {r : Int32} (hR : kRI g (WC cI cS ad) 5 cX8_line .int C r) (N : Nat) (a1 : Int32) (a2 : Int32)  (hf : f_X8_line N C a1 a2 = some r) : J g (WC cI cS ad) 5 C 0 [some (.ref (ad 0)), some (.int a1), some (.int a2), none, none] [] := by
  unfold f_X8_line at hf
  refine j_aload_n (pc := 0) X dX8_line_0 rfl ?_
  refine j_get (pc := 1) X iw_X8_line_X8 (wc8 kd_0) rfl 6 (Nat.le_of_ble_eq_true rfl) lk_X8_line_0 (v := .ref (ad 119)) rfl dX8_line_1 ?_
  refine j_iload_n (pc := 4) X dX8_line_4 rfl ?_
  obtain ⟨r2, h1, hf⟩ := kB hf
  refine j_callI (pc := 5) X (c_X4_hasLine N C a1 h1) gX8_line_X4_hasLine rfl ⟨rfl, rfl⟩ rfl hd_X4_hasLine ⟨(Nat.le_of_ble_eq_true rfl), (Nat.le_of_ble_eq_true rfl)⟩ (wc4 kd_119) rfl rfl rfl (Nat.le_of_ble_eq_true rfl) rfl dX8_line_5 ?_
  refine j_if_ne (tgt := 14) (pc := 8) X dX8_line_8 rfl (fun c3 => ?_) (fun c3 => ?_)
  · have hf := kF c3 hf
    refine j_aload_n (pc := 14) X dX8_line_14 rfl ?_
    refine j_get (pc := 15) X iw_X8_line_X8 (wc8 kd_0) rfl 6 (Nat.le_of_ble_eq_true rfl) lk_X8_line_0 (v := .ref (ad 119)) rfl dX8_line_15 ?_
    refine j_iload_n (pc := 18) X dX8_line_18 rfl ?_
    obtain ⟨r5, h4, hf⟩ := kB hf
    refine j_callI (pc := 19) X (c_X4_firstWordOf N C a1 h4) gX8_line_X4_firstWordOf rfl ⟨rfl, rfl⟩ rfl hd_X4_firstWordOf ⟨(Nat.le_of_ble_eq_true rfl), (Nat.le_of_ble_eq_true rfl)⟩ (wc4 kd_119) rfl rfl rfl (Nat.le_of_ble_eq_true rfl) rfl dX8_line_19 ?_
    refine j_istore_n (pc := 22) X dX8_line_22 (Nat.le_of_ble_eq_true rfl) (lv' := [some (.ref (ad 0)), some (.int a1), some (.int a2), some (.int r5), none]) rfl ?_
    refine j_aload_n (pc := 23) X dX8_line_23 rfl ?_
    refine j_get (pc := 24) X iw_X8_line_X8 (wc8 kd_0) rfl 6 (Nat.le_of_ble_eq_true rfl) lk_X8_line_0 (v := .ref (ad 119)) rfl dX8_line_24 ?_
    refine j_iload_n (pc := 27) X dX8_line_27 rfl ?_
    obtain ⟨r7, h6, hf⟩ := kB hf
    refine j_callI (pc := 28) X (c_X4_firstWordBehind N C a1 h6) gX8_line_X4_firstWordBehind rfl ⟨rfl, rfl⟩ rfl hd_X4_firstWordBehind ⟨(Nat.le_of_ble_eq_true rfl), (Nat.le_of_ble_eq_true rfl)⟩ (wc4 kd_119) rfl rfl rfl (Nat.le_of_ble_eq_true rfl) rfl dX8_line_28 ?_
    refine j_istore (pc := 31) X dX8_line_31 (Nat.le_of_ble_eq_true rfl) (lv' := [some (.ref (ad 0)), some (.int a1), some (.int a2), some (.int r5), some (.int r7)]) rfl ?_
    refine j_iload_n (pc := 33) X dX8_line_33 rfl ?_
    rcases Decidable.em (a2 = 0) with c8 | c8
    · have hf := kT c8 hf
      refine j_tabIn (v := 0) (off := 34) (tgt := 68) (pc := 34) X dX8_line_34 c8 (by decide) (by decide) (by decide) rfl ?_
      refine j_iload_n (pc := 68) X dX8_line_68 rfl ?_
      exact j_retI hR dX8_line_69 hf
    · have hf := kF c8 hf
      rcases Decidable.em (a2 = 1) with c9 | c9
      · have hf := kT c9 hf
        refine j_tabIn (v := 1) (off := 36) (tgt := 70) (pc := 34) X dX8_line_34 c9 (by decide) (by decide) (by decide) rfl ?_
        refine j_iload (pc := 70) X dX8_line_70 rfl ?_
        refine j_iload_n (pc := 72) X dX8_line_72 rfl ?_
        refine j_isub (pc := 73) X dX8_line_73 ?_
        exact j_retI hR dX8_line_74 hf
      · have hf := kF c9 hf
        rcases Decidable.em (a2 = 2) with c10 | c10
        · have hf := kT c10 hf
          refine j_tabIn (v := 2) (off := 41) (tgt := 75) (pc := 34) X dX8_line_34 c10 (by decide) (by decide) (by decide) rfl ?_
          refine j_aload_n (pc := 75) X dX8_line_75 rfl ?_
          refine j_get (pc := 76) X iw_X8_line_X8 (wc8 kd_0) rfl 6 (Nat.le_of_ble_eq_true rfl) lk_X8_line_0 (v := .ref (ad 119)) rfl dX8_line_76 ?_
          refine j_iload_n (pc := 79) X dX8_line_79 rfl ?_
          refine j_iload (pc := 80) X dX8_line_80 rfl ?_
          obtain ⟨r12, h11, hf⟩ := kB hf
          refine j_callI (pc := 82) X (c_X4_widthBetween N C r5 r7 h11) gX8_line_X4_widthBetween rfl ⟨rfl, rfl⟩ rfl hd_X4_widthBetween ⟨(Nat.le_of_ble_eq_true rfl), (Nat.le_of_ble_eq_true rfl)⟩ (wc4 kd_119) rfl rfl rfl (Nat.le_of_ble_eq_true rfl) rfl dX8_line_82 ?_
          exact j_retI hR dX8_line_85 hf
        · have hf := kF c10 hf
          rcases Decidable.em (a2 = 3) with c13 | c13
          · have hf := kT c13 hf
            refine j_tabIn (v := 3) (off := 52) (tgt := 86) (pc := 34) X dX8_line_34 c13 (by decide) (by decide) (by decide) rfl ?_
            refine j_iconst (pc := 86) X dX8_line_86 kc_0 ?_
            refine j_aload_n (pc := 87) X dX8_line_87 rfl ?_
            refine j_get (pc := 88) X iw_X8_line_X8 (wc8 kd_0) rfl 1 (Nat.le_of_ble_eq_true rfl) lk_X8_line_1 (v := .ref (ad 4)) rfl dX8_line_88 ?_
            refine j_getN (pc := 91) X iw_X8_line_X5 (wc5 kd_4) rfl 4 (Nat.le_of_ble_eq_true rfl) (List.mem_of_getElem? (i := 2) rfl) (v := .ref (ad 22)) rfl dX8_line_91 ?_
            refine j_iconst (pc := 94) X dX8_line_94 kc_4 ?_
            obtain ⟨r15, h14, hf⟩ := kB hf
            refine j_callI (pc := 95) X (c_X3_at N C 22 (kd5_18 kd_4 : kd 22 = 3) 4 h14) gX8_line_X3_at rfl ⟨rfl, rfl⟩ rfl hd_X3_at ⟨(Nat.le_of_ble_eq_true rfl), (Nat.le_of_ble_eq_true rfl)⟩ (wc3 (kd5_18 kd_4 : kd 22 = 3)) rfl rfl rfl (Nat.le_of_ble_eq_true rfl) rfl dX8_line_95 ?_
            refine j_aload_n (pc := 98) X dX8_line_98 rfl ?_
            refine j_get (pc := 99) X iw_X8_line_X8 (wc8 kd_0) rfl 6 (Nat.le_of_ble_eq_true rfl) lk_X8_line_0 (v := .ref (ad 119)) rfl dX8_line_99 ?_
            refine j_iload_n (pc := 102) X dX8_line_102 rfl ?_
            refine j_iload (pc := 103) X dX8_line_103 rfl ?_
            obtain ⟨r17, h16, hf⟩ := kB hf
            refine j_callI (pc := 105) X (c_X4_widthBetween N C r5 r7 h16) gX8_line_X4_widthBetween rfl ⟨rfl, rfl⟩ rfl hd_X4_widthBetween ⟨(Nat.le_of_ble_eq_true rfl), (Nat.le_of_ble_eq_true rfl)⟩ (wc4 kd_119) rfl rfl rfl (Nat.le_of_ble_eq_true rfl) rfl dX8_line_105 ?_
            refine j_isub (pc := 108) X dX8_line_108 ?_
            obtain ⟨x18, ex18, hf⟩ := jn_s hf
            refine j_mmax (pc := 109) X lk_X8_line_2 lk_X8_line_3 lk_X8_line_4 lk_X8_line_5 (Nat.le_of_ble_eq_true rfl) (Nat.le_of_ble_eq_true rfl) dX8_line_109 ?_
            rw [← ex18]
            exact j_retI hR dX8_line_112 hf
          · have hf := kF c13 hf
            rcases Decidable.em (a2 = 4) with c19 | c19
            · have hf := kT c19 hf
              refine j_tabIn (v := 4) (off := 79) (tgt := 113) (pc := 34) X dX8_line_34 c19 (by decide) (by decide) (by decide) rfl ?_
              refine j_aload_n (pc := 113) X dX8_line_113 rfl ?_
              refine j_get (pc := 114) X iw_X8_line_X8 (wc8 kd_0) rfl 6 (Nat.le_of_ble_eq_true rfl) lk_X8_line_0 (v := .ref (ad 119)) rfl dX8_line_114 ?_
              refine j_iload_n (pc := 117) X dX8_line_117 rfl ?_
              refine j_iload (pc := 118) X dX8_line_118 rfl ?_
              obtain ⟨r21, h20, hf⟩ := kB hf
              refine j_callI (pc := 120) X (c_X4_barsBetween N C r5 r7 h20) gX8_line_X4_barsBetween rfl ⟨rfl, rfl⟩ rfl hd_X4_barsBetween ⟨(Nat.le_of_ble_eq_true rfl), (Nat.le_of_ble_eq_true rfl)⟩ (wc4 kd_119) rfl rfl rfl (Nat.le_of_ble_eq_true rfl) rfl dX8_line_120 ?_
              exact j_retI hR dX8_line_123 hf
            · have hf := kF c19 hf
              refine j_tabOut (tgt := 124) (pc := 34) X dX8_line_34 (by have gc8 := lv_neT (a := 0) c8 (by decide); have gc9 := lv_neT (a := 1) c9 (by decide); have gc10 := lv_neT (a := 2) c10 (by decide); have gc13 := lv_neT (a := 3) c13 (by decide); have gc19 := lv_neT (a := 4) c19 (by decide); omega) rfl ?_
              refine j_bipush (pc := 124) X dX8_line_124 kb_m11 ?_
              exact j_retI hR dX8_line_126 hf
  · have hf := kT c3 hf
    refine j_bipush (pc := 11) X dX8_line_11 kb_m11 ?_
    exact j_retI hR dX8_line_13 hf
theorem c_X8_line {l : Launch} {D : va_G} {cI cS : ClassId} {ad : Nat → Nat} (N : Nat) (C : kS) (a1 : Int32) (a2 : Int32) {r : Int32} (hf : f_X8_line N C a1 a2 = some r) : mI l yX8_line wsX8_line rm_X8_line D cI cS (WC cI cS ad) C [.ref (ad 0), .int a1, .int a2] r :=
  mI.of (by decide) rfl rfl (Nat.le_of_ble_eq_true rfl) (fun g X hR => t_X8_line X  hR N a1 a2  hf)
abbrev rm_X8_name : Room := { frames := 6, cells := 0, slots := 0, locals := 146 }
theorem lk_X8_name_0 : Cond.fieldLink RX8 19 "BlackBars" "state" "LBlackBars$State;" ∈ wsX8_name := List.mem_of_getElem? (i := 1) rfl
theorem iw_X8_name_X8 : ∀ w ∈ wsX80, w ∈ wsX8_name := fun _ h => List.mem_cons_of_mem _ (List.mem_append_left _ (List.mem_append_left _ (List.mem_append_left _ (List.mem_append_left _ (List.mem_append_left _ (List.mem_append_left _ (List.mem_append_left _ (List.mem_append_left _ (List.mem_append_right _ h)))))))))
theorem iw_X8_name_X5 : ∀ w ∈ wsX50, w ∈ wsX8_name := fun _ h => List.mem_cons_of_mem _ (List.mem_append_left _ (List.mem_append_left _ (List.mem_append_left _ (List.mem_append_left _ (List.mem_append_left _ (List.mem_append_left _ (List.mem_append_left _ (List.mem_append_right _ h))))))))
theorem hd_X8_name : kHd yX8_name 0 := by decide +kernel
set_option maxHeartbeats 4000000 in
set_option maxRecDepth 100000 in
theorem t_X8_name {g : kG} {cI cS : ClassId} {ad : Nat → Nat} (X : Kx g cI cS cX8_name RX8 wsX8_name 1 rm_X8_name) {r : Int32} {Cr : kS} (hI : kInj 132 ad) (Y : Kw g (WC cI cS ad) (kAd 132 ad)) (hR : kRI g (WC cI cS ad) 1 cX8_name .int Cr r) (N : Nat) (C : kS)   (hf : f_X8_name N C = some (r, Cr)) : J g (WC cI cS ad) 1 C 0 [some (.ref (ad 0))] [] := by
  unfold f_X8_name at hf
  refine j_aload_n (pc := 0) X dX8_name_0 rfl ?_
  refine j_aload_n (pc := 1) X dX8_name_1 rfl ?_
  refine j_get (pc := 2) X iw_X8_name_X8 (wc8 kd_0) rfl 1 (Nat.le_of_ble_eq_true rfl) lk_X8_name_0 (v := .ref (ad 4)) rfl dX8_name_2 ?_
  refine j_getN (pc := 5) X iw_X8_name_X5 (wc5 kd_4) rfl 1 (Nat.le_of_ble_eq_true rfl) (List.mem_of_getElem? (i := 4) rfl) (v := .ref (ad 10)) rfl dX8_name_5 ?_
  obtain ⟨p2, h1, hf⟩ := kB hf
  refine j_callW (pc := 8) X Y (c_X8_addTextTo hI N C 10 (kd5_6 kd_4 : kd 10 = 7) h1) gX8_name_X8_addTextTo rfl ⟨rfl, rfl⟩ rfl hd_X8_addTextTo ⟨(Nat.le_of_ble_eq_true rfl), (Nat.le_of_ble_eq_true rfl)⟩ (wc8 kd_0) rfl rfl rfl (Nat.le_of_ble_eq_true rfl) rfl dX8_name_8 ?_
  exact j_retW hR dX8_name_11 hf
theorem c_X8_name {l : Launch} {D : va_G} {cI cS : ClassId} {ad : Nat → Nat} (hI : kInj 132 ad) (N : Nat) (C : kS)  {r : Int32} {Cr : kS} (hf : f_X8_name N C = some (r, Cr)) : mW l yX8_name wsX8_name rm_X8_name D cI cS (WC cI cS ad) (kAd 132 ad) C [.ref (ad 0)] r Cr :=
  mW.of (by decide) rfl rfl (Nat.le_of_ble_eq_true rfl) (WC_D hI) (fun g X Y hR => t_X8_name X hI Y hR N C   hf)
abbrev rm_X8_page : Room := { frames := 5, cells := 0, slots := 0, locals := 125 }
theorem lk_X8_page_0 : Cond.fieldLink RX8 12 "BlackBars" "text" "LBlackBars$Text;" ∈ wsX8_page := List.mem_of_getElem? (i := 1) rfl
theorem iw_X8_page_X8 : ∀ w ∈ wsX80, w ∈ wsX8_page := fun _ h => List.mem_cons_of_mem _ (List.mem_append_left _ (List.mem_append_left _ (List.mem_append_left _ (List.mem_append_left _ (List.mem_append_left _ (List.mem_append_left _ (List.mem_append_left _ (List.mem_append_left _ (List.mem_append_right _ h)))))))))
theorem lk_X8_page_1 : Cond.fieldLink RX8 26 "BlackBars" "history" "LBlackBars$History;" ∈ wsX8_page := List.mem_of_getElem? (i := 2) rfl
theorem lk_X8_page_2 : Cond.fieldLink RX8 19 "BlackBars" "state" "LBlackBars$State;" ∈ wsX8_page := List.mem_of_getElem? (i := 3) rfl
theorem iw_X8_page_X5 : ∀ w ∈ wsX50, w ∈ wsX8_page := fun _ h => List.mem_cons_of_mem _ (List.mem_append_left _ (List.mem_append_left _ (List.mem_append_left _ (List.mem_append_left _ (List.mem_append_left _ (List.mem_append_left _ (List.mem_append_left _ (List.mem_append_right _ h))))))))
theorem hd_X8_page : kHd yX8_page 0 := by decide +kernel
set_option maxHeartbeats 4000000 in
set_option maxRecDepth 100000 in
theorem t_X8_page {g : kG} {cI cS : ClassId} {ad : Nat → Nat} (X : Kx g cI cS cX8_page RX8 wsX8_page 1 rm_X8_page) {r : Int32} {Cr : kS} (hI : kInj 132 ad) (Y : Kw g (WC cI cS ad) (kAd 132 ad)) (hR : kRI g (WC cI cS ad) 1 cX8_page .int Cr r) (N : Nat) (C : kS)   (hf : f_X8_page N C = some (r, Cr)) : J g (WC cI cS ad) 1 C 0 [some (.ref (ad 0))] [] := by
  unfold f_X8_page at hf
  refine j_aload_n (pc := 0) X dX8_page_0 rfl ?_
  refine j_get (pc := 1) X iw_X8_page_X8 (wc8 kd_0) rfl 0 (Nat.le_of_ble_eq_true rfl) lk_X8_page_0 (v := .ref (ad 1)) rfl dX8_page_1 ?_
  obtain ⟨r2, h1, hf⟩ := kB hf
  refine j_callI (pc := 4) X (c_X6_faultIndex N C  h1) gX8_page_X6_faultIndex rfl ⟨rfl, rfl⟩ rfl hd_X6_faultIndex ⟨(Nat.le_of_ble_eq_true rfl), (Nat.le_of_ble_eq_true rfl)⟩ (wc6 kd_1) rfl rfl rfl (Nat.le_of_ble_eq_true rfl) rfl dX8_page_4 ?_
  refine j_if_lt (tgt := 13) (pc := 7) X dX8_page_7 rfl (fun c3 => ?_) (fun c3 => ?_)
  · have hf := kT c3 hf
    refine j_aload_n (pc := 13) X dX8_page_13 rfl ?_
    refine j_get (pc := 14) X iw_X8_page_X8 (wc8 kd_0) rfl 2 (Nat.le_of_ble_eq_true rfl) lk_X8_page_1 (v := .ref (ad 24)) rfl dX8_page_14 ?_
    refine j_aload_n (pc := 17) X dX8_page_17 rfl ?_
    refine j_get (pc := 18) X iw_X8_page_X8 (wc8 kd_0) rfl 1 (Nat.le_of_ble_eq_true rfl) lk_X8_page_2 (v := .ref (ad 4)) rfl dX8_page_18 ?_
    obtain ⟨C5, h4, hf⟩ := kB hf
    refine j_callV (pc := 21) X Y (c_X2_keep hI N C  h4) gX8_page_X2_keep rfl ⟨rfl, rfl⟩ rfl hd_X2_keep ⟨(Nat.le_of_ble_eq_true rfl), (Nat.le_of_ble_eq_true rfl)⟩ (wc2 kd_24) rfl rfl rfl (Nat.le_of_ble_eq_true rfl) rfl dX8_page_21 ?_
    refine j_aload_n (pc := 24) X dX8_page_24 rfl ?_
    refine j_get (pc := 25) X iw_X8_page_X8 (wc8 kd_0) rfl 1 (Nat.le_of_ble_eq_true rfl) lk_X8_page_2 (v := .ref (ad 4)) rfl dX8_page_25 ?_
    refine j_getN (pc := 28) X iw_X8_page_X5 (wc5 kd_4) rfl 0 (Nat.le_of_ble_eq_true rfl) (List.mem_of_getElem? (i := 3) rfl) (v := .ref (ad 5)) rfl dX8_page_28 ?_
    obtain ⟨C7, h6, hf⟩ := kB hf
    refine j_callV (pc := 31) X Y (c_X7_empty hI N C5 5 (kd5_1 kd_4 : kd 5 = 7) h6) gX8_page_X7_empty rfl ⟨rfl, rfl⟩ rfl hd_X7_empty ⟨(Nat.le_of_ble_eq_true rfl), (Nat.le_of_ble_eq_true rfl)⟩ (wc7 (kd5_1 kd_4 : kd 5 = 7)) rfl rfl rfl (Nat.le_of_ble_eq_true rfl) rfl dX8_page_31 ?_
    refine j_aload_n (pc := 34) X dX8_page_34 rfl ?_
    refine j_get (pc := 35) X iw_X8_page_X8 (wc8 kd_0) rfl 1 (Nat.le_of_ble_eq_true rfl) lk_X8_page_2 (v := .ref (ad 4)) rfl dX8_page_35 ?_
    refine j_getN (pc := 38) X iw_X8_page_X5 (wc5 kd_4) rfl 0 (Nat.le_of_ble_eq_true rfl) (List.mem_of_getElem? (i := 3) rfl) (v := .ref (ad 5)) rfl dX8_page_38 ?_
    refine j_aload_n (pc := 41) X dX8_page_41 rfl ?_
    refine j_get (pc := 42) X iw_X8_page_X8 (wc8 kd_0) rfl 0 (Nat.le_of_ble_eq_true rfl) lk_X8_page_0 (v := .ref (ad 1)) rfl dX8_page_42 ?_
    obtain ⟨C9, h8, hf⟩ := kB hf
    refine j_callV (pc := 45) X Y (c_X7_addWordsOf hI N C7 5 (kd5_1 kd_4 : kd 5 = 7) h8) gX8_page_X7_addWordsOf rfl ⟨rfl, rfl⟩ rfl hd_X7_addWordsOf ⟨(Nat.le_of_ble_eq_true rfl), (Nat.le_of_ble_eq_true rfl)⟩ (wc7 (kd5_1 kd_4 : kd 5 = 7)) rfl rfl rfl (Nat.le_of_ble_eq_true rfl) rfl dX8_page_45 ?_
    refine j_aload_n (pc := 48) X dX8_page_48 rfl ?_
    obtain ⟨C11, h10, hf⟩ := kB hf
    refine j_callV (pc := 49) X Y (c_X8_workOut hI N C9  h10) gX8_page_X8_workOut rfl ⟨rfl, rfl⟩ rfl hd_X8_workOut ⟨(Nat.le_of_ble_eq_true rfl), (Nat.le_of_ble_eq_true rfl)⟩ (wc8 kd_0) rfl rfl rfl (Nat.le_of_ble_eq_true rfl) rfl dX8_page_49 ?_
    refine j_aload_n (pc := 52) X dX8_page_52 rfl ?_
    refine j_get (pc := 53) X iw_X8_page_X8 (wc8 kd_0) rfl 1 (Nat.le_of_ble_eq_true rfl) lk_X8_page_2 (v := .ref (ad 4)) rfl dX8_page_53 ?_
    refine j_getN (pc := 56) X iw_X8_page_X5 (wc5 kd_4) rfl 0 (Nat.le_of_ble_eq_true rfl) (List.mem_of_getElem? (i := 3) rfl) (v := .ref (ad 5)) rfl dX8_page_56 ?_
    obtain ⟨r13, h12, hf⟩ := kB hf
    refine j_callI (pc := 59) X (c_X7_size N C11 5 (kd5_1 kd_4 : kd 5 = 7) h12) gX8_page_X7_size rfl ⟨rfl, rfl⟩ rfl hd_X7_size ⟨(Nat.le_of_ble_eq_true rfl), (Nat.le_of_ble_eq_true rfl)⟩ (wc7 (kd5_1 kd_4 : kd 5 = 7)) rfl rfl rfl (Nat.le_of_ble_eq_true rfl) rfl dX8_page_59 ?_
    exact j_retW hR dX8_page_62 hf
  · have hf := kF c3 hf
    refine j_bipush (pc := 10) X dX8_page_10 kb_m12 ?_
    exact j_retW hR dX8_page_12 hf
theorem c_X8_page {l : Launch} {D : va_G} {cI cS : ClassId} {ad : Nat → Nat} (hI : kInj 132 ad) (N : Nat) (C : kS)  {r : Int32} {Cr : kS} (hf : f_X8_page N C = some (r, Cr)) : mW l yX8_page wsX8_page rm_X8_page D cI cS (WC cI cS ad) (kAd 132 ad) C [.ref (ad 0)] r Cr :=
  mW.of (by decide) rfl rfl (Nat.le_of_ble_eq_true rfl) (WC_D hI) (fun g X Y hR => t_X8_page X hI Y hR N C   hf)
abbrev rm_X8_set : Room := { frames := 5, cells := 0, slots := 0, locals := 125 }
theorem lk_X8_set_0 : Cond.fieldLink RX8 126 "BlackBars" "LEAST_VALUES" "[I" ∈ wsX8_set := List.mem_of_getElem? (i := 1) rfl
theorem lk_X8_set_1 : Cond.fieldLink RX8 130 "BlackBars" "GREATEST_VALUES" "[I" ∈ wsX8_set := List.mem_of_getElem? (i := 2) rfl
theorem lk_X8_set_2 : Cond.fieldLink RX8 19 "BlackBars" "state" "LBlackBars$State;" ∈ wsX8_set := List.mem_of_getElem? (i := 3) rfl
theorem iw_X8_set_X8 : ∀ w ∈ wsX80, w ∈ wsX8_set := fun _ h => List.mem_cons_of_mem _ (List.mem_append_left _ (List.mem_append_left _ (List.mem_append_left _ (List.mem_append_left _ (List.mem_append_left _ (List.mem_append_left _ (List.mem_append_left _ (List.mem_append_right _ h))))))))
theorem iw_X8_set_X5 : ∀ w ∈ wsX50, w ∈ wsX8_set := fun _ h => List.mem_cons_of_mem _ (List.mem_append_left _ (List.mem_append_left _ (List.mem_append_left _ (List.mem_append_left _ (List.mem_append_left _ (List.mem_append_left _ (List.mem_append_right _ h)))))))
theorem lk_X8_set_3 : Cond.fieldLink RX8 26 "BlackBars" "history" "LBlackBars$History;" ∈ wsX8_set := List.mem_of_getElem? (i := 4) rfl
theorem hd_X8_set : kHd yX8_set 2 := by decide +kernel
set_option maxHeartbeats 4000000 in
set_option maxRecDepth 100000 in
theorem t_X8_set {g : kG} {cI cS : ClassId} {ad : Nat → Nat} (X : Kx g cI cS cX8_set RX8 wsX8_set 4 rm_X8_set) {r : Int32} {Cr : kS} (hI : kInj 132 ad) (Y : Kw g (WC cI cS ad) (kAd 132 ad)) {LV GV : Nat} (SLV : va_Z RX8 "LEAST_VALUES" "[I" (.ref LV) (kAd 132 ad) g.1.2.2.2.2 g.1.2.2.2.2.heap) (ZLV : va_T .int LV 5 (fun j => .int (tb_LV j)) (kAd 132 ad) g.1.2.2.2.2 g.1.2.2.2.2.heap) (SGV : va_Z RX8 "GREATEST_VALUES" "[I" (.ref GV) (kAd 132 ad) g.1.2.2.2.2 g.1.2.2.2.2.heap) (ZGV : va_T .int GV 5 (fun j => .int (tb_GV j)) (kAd 132 ad) g.1.2.2.2.2 g.1.2.2.2.2.heap) (hR : kRI g (WC cI cS ad) 4 cX8_set .int Cr r) (N : Nat) (C : kS) (a1 : Int32) (a2 : Int32)  (hf : f_X8_set N C a1 a2 = some (r, Cr)) : J g (WC cI cS ad) 4 C 0 [some (.ref (ad 0)), some (.int a1), some (.int a2), none] [] := by
  unfold f_X8_set at hf
  refine j_iload_n (pc := 0) X dX8_set_0 rfl ?_
  refine j_if_lt (tgt := 9) (pc := 1) X dX8_set_1 rfl (fun c1 => ?_) (fun c1 => ?_)
  · have hf := kT c1 hf
    refine j_bipush (pc := 9) X dX8_set_9 kb_m11 ?_
    exact j_retW hR dX8_set_11 hf
  · have hf := kF c1 hf
    refine j_iload_n (pc := 4) X dX8_set_4 rfl ?_
    refine j_iconst (pc := 5) X dX8_set_5 kc_5 ?_
    refine j_icmp_lt (tgt := 12) (pc := 6) X dX8_set_6 rfl (fun c2 => ?_) (fun c2 => ?_)
    · have hf := kT c2 hf
      refine j_iload_n (pc := 12) X dX8_set_12 rfl ?_
      refine j_gets (pc := 13) X Y SLV lk_X8_set_0 dX8_set_13 ?_
      refine j_iload_n (pc := 16) X dX8_set_16 rfl ?_
      obtain ⟨b3, hf⟩ := gIn_s hf
      refine j_ti (pc := 17) X Y ZLV b3 dX8_set_17 ?_
      refine j_icmp_lt (tgt := 30) (pc := 18) X dX8_set_18 rfl (fun c4 => ?_) (fun c4 => ?_)
      · have hf := kT c4 hf
        refine j_bipush (pc := 30) X dX8_set_30 kb_m11 ?_
        exact j_retW hR dX8_set_32 hf
      · have hf := kF c4 hf
        refine j_iload_n (pc := 21) X dX8_set_21 rfl ?_
        refine j_gets (pc := 22) X Y SGV lk_X8_set_1 dX8_set_22 ?_
        refine j_iload_n (pc := 25) X dX8_set_25 rfl ?_
        obtain ⟨b5, hf⟩ := gIn_s hf
        refine j_ti (pc := 26) X Y ZGV b5 dX8_set_26 ?_
        refine j_icmp_le (tgt := 33) (pc := 27) X dX8_set_27 rfl (fun c6 => ?_) (fun c6 => ?_)
        · have hf := kT c6 hf
          refine j_aload_n (pc := 33) X dX8_set_33 rfl ?_
          refine j_get (pc := 34) X iw_X8_set_X8 (wc8 kd_0) rfl 1 (Nat.le_of_ble_eq_true rfl) lk_X8_set_2 (v := .ref (ad 4)) rfl dX8_set_34 ?_
          refine j_getN (pc := 37) X iw_X8_set_X5 (wc5 kd_4) rfl 4 (Nat.le_of_ble_eq_true rfl) (List.mem_of_getElem? (i := 2) rfl) (v := .ref (ad 22)) rfl dX8_set_37 ?_
          refine j_iload_n (pc := 40) X dX8_set_40 rfl ?_
          obtain ⟨r8, h7, hf⟩ := kB hf
          refine j_callI (pc := 41) X (c_X3_at N C 22 (kd5_18 kd_4 : kd 22 = 3) a1 h7) gX8_set_X3_at rfl ⟨rfl, rfl⟩ rfl hd_X3_at ⟨(Nat.le_of_ble_eq_true rfl), (Nat.le_of_ble_eq_true rfl)⟩ (wc3 (kd5_18 kd_4 : kd 22 = 3)) rfl rfl rfl (Nat.le_of_ble_eq_true rfl) rfl dX8_set_41 ?_
          refine j_istore_n (pc := 44) X dX8_set_44 (Nat.le_of_ble_eq_true rfl) (lv' := [some (.ref (ad 0)), some (.int a1), some (.int a2), some (.int r8)]) rfl ?_
          refine j_aload_n (pc := 45) X dX8_set_45 rfl ?_
          refine j_get (pc := 46) X iw_X8_set_X8 (wc8 kd_0) rfl 2 (Nat.le_of_ble_eq_true rfl) lk_X8_set_3 (v := .ref (ad 24)) rfl dX8_set_46 ?_
          refine j_aload_n (pc := 49) X dX8_set_49 rfl ?_
          refine j_get (pc := 50) X iw_X8_set_X8 (wc8 kd_0) rfl 1 (Nat.le_of_ble_eq_true rfl) lk_X8_set_2 (v := .ref (ad 4)) rfl dX8_set_50 ?_
          obtain ⟨C10, h9, hf⟩ := kB hf
          refine j_callV (pc := 53) X Y (c_X2_keep hI N C  h9) gX8_set_X2_keep rfl ⟨rfl, rfl⟩ rfl hd_X2_keep ⟨(Nat.le_of_ble_eq_true rfl), (Nat.le_of_ble_eq_true rfl)⟩ (wc2 kd_24) rfl rfl rfl (Nat.le_of_ble_eq_true rfl) rfl dX8_set_53 ?_
          refine j_aload_n (pc := 56) X dX8_set_56 rfl ?_
          refine j_get (pc := 57) X iw_X8_set_X8 (wc8 kd_0) rfl 1 (Nat.le_of_ble_eq_true rfl) lk_X8_set_2 (v := .ref (ad 4)) rfl dX8_set_57 ?_
          refine j_getN (pc := 60) X iw_X8_set_X5 (wc5 kd_4) rfl 4 (Nat.le_of_ble_eq_true rfl) (List.mem_of_getElem? (i := 2) rfl) (v := .ref (ad 22)) rfl dX8_set_60 ?_
          refine j_iload_n (pc := 63) X dX8_set_63 rfl ?_
          refine j_iload_n (pc := 64) X dX8_set_64 rfl ?_
          obtain ⟨C12, h11, hf⟩ := kB hf
          refine j_callV (pc := 65) X Y (c_X3_put hI N C10 22 (kd5_18 kd_4 : kd 22 = 3) a1 a2 h11) gX8_set_X3_put rfl ⟨rfl, rfl⟩ rfl hd_X3_put ⟨(Nat.le_of_ble_eq_true rfl), (Nat.le_of_ble_eq_true rfl)⟩ (wc3 (kd5_18 kd_4 : kd 22 = 3)) rfl rfl rfl (Nat.le_of_ble_eq_true rfl) rfl dX8_set_65 ?_
          refine j_aload_n (pc := 68) X dX8_set_68 rfl ?_
          obtain ⟨C14, h13, hf⟩ := kB hf
          refine j_callV (pc := 69) X Y (c_X8_workOut hI N C12  h13) gX8_set_X8_workOut rfl ⟨rfl, rfl⟩ rfl hd_X8_workOut ⟨(Nat.le_of_ble_eq_true rfl), (Nat.le_of_ble_eq_true rfl)⟩ (wc8 kd_0) rfl rfl rfl (Nat.le_of_ble_eq_true rfl) rfl dX8_set_69 ?_
          refine j_iload_n (pc := 72) X dX8_set_72 rfl ?_
          exact j_retW hR dX8_set_73 hf
        · have hf := kF c6 hf
          refine j_bipush (pc := 30) X dX8_set_30 kb_m11 ?_
          exact j_retW hR dX8_set_32 hf
    · have hf := kF c2 hf
      refine j_bipush (pc := 9) X dX8_set_9 kb_m11 ?_
      exact j_retW hR dX8_set_11 hf
theorem c_X8_set {l : Launch} {D : va_G} {cI cS : ClassId} {ad : Nat → Nat} (hI : kInj 132 ad) (N : Nat) (C : kS) (a1 : Int32) (a2 : Int32) {r : Int32} {Cr : kS} {LV GV : Nat} (hf : f_X8_set N C a1 a2 = some (r, Cr)) : mWE l yX8_set wsX8_set rm_X8_set D cI cS (WC cI cS ad) (kAd 132 ad) (kZ (kAd 132 ad) LV GV) C [.ref (ad 0), .int a1, .int a2] r Cr :=
  mWE.of (by decide) rfl rfl (Nat.le_of_ble_eq_true rfl) (WC_D hI) (fun g X Y hE hR => t_X8_set X hI Y hE.1.1 hE.1.2 hE.2.1 hE.2.2 hR N C a1 a2  hf)
abbrev rm_X8_type : Room := { frames := 2, cells := 0, slots := 0, locals := 43 }
theorem lk_X8_type_0 : Cond.fieldLink RX8 12 "BlackBars" "text" "LBlackBars$Text;" ∈ wsX8_type := List.mem_of_getElem? (i := 1) rfl
theorem iw_X8_type_X8 : ∀ w ∈ wsX80, w ∈ wsX8_type := fun _ h => List.mem_cons_of_mem _ (List.mem_append_left _ (List.mem_append_left _ (List.mem_append_right _ h)))
theorem hd_X8_type : kHd yX8_type 1 := by decide +kernel
set_option maxHeartbeats 4000000 in
set_option maxRecDepth 100000 in
theorem t_X8_type {g : kG} {cI cS : ClassId} {ad : Nat → Nat} (X : Kx g cI cS cX8_type RX8 wsX8_type 2 rm_X8_type) {r : Int32} {Cr : kS} (hI : kInj 132 ad) (Y : Kw g (WC cI cS ad) (kAd 132 ad)) (hR : kRI g (WC cI cS ad) 2 cX8_type .int Cr r) (N : Nat) (C : kS) (a1 : Int32)  (hf : f_X8_type N C a1 = some (r, Cr)) : J g (WC cI cS ad) 2 C 0 [some (.ref (ad 0)), some (.int a1)] [] := by
  unfold f_X8_type at hf
  refine j_iload_n (pc := 0) X dX8_type_0 rfl ?_
  refine j_bipush (pc := 1) X dX8_type_1 kb_32 ?_
  refine j_icmp_lt (tgt := 12) (pc := 3) X dX8_type_3 rfl (fun c1 => ?_) (fun c1 => ?_)
  · have hf := kT c1 hf
    refine j_bipush (pc := 12) X dX8_type_12 kb_m11 ?_
    exact j_retW hR dX8_type_14 hf
  · have hf := kF c1 hf
    refine j_iload_n (pc := 6) X dX8_type_6 rfl ?_
    refine j_bipush (pc := 7) X dX8_type_7 kb_126 ?_
    refine j_icmp_le (tgt := 15) (pc := 9) X dX8_type_9 rfl (fun c2 => ?_) (fun c2 => ?_)
    · have hf := kT c2 hf
      refine j_aload_n (pc := 15) X dX8_type_15 rfl ?_
      refine j_get (pc := 16) X iw_X8_type_X8 (wc8 kd_0) rfl 0 (Nat.le_of_ble_eq_true rfl) lk_X8_type_0 (v := .ref (ad 1)) rfl dX8_type_16 ?_
      obtain ⟨r4, h3, hf⟩ := kB hf
      refine j_callI (pc := 19) X (c_X6_size N C  h3) gX8_type_X6_size rfl ⟨rfl, rfl⟩ rfl hd_X6_size ⟨(Nat.le_of_ble_eq_true rfl), (Nat.le_of_ble_eq_true rfl)⟩ (wc6 kd_1) rfl rfl rfl (Nat.le_of_ble_eq_true rfl) rfl dX8_type_19 ?_
      refine j_sipush (pc := 22) X dX8_type_22 ks_200 ?_
      refine j_icmp_lt (tgt := 31) (pc := 25) X dX8_type_25 rfl (fun c5 => ?_) (fun c5 => ?_)
      · have hf := kT c5 hf
        refine j_aload_n (pc := 31) X dX8_type_31 rfl ?_
        refine j_get (pc := 32) X iw_X8_type_X8 (wc8 kd_0) rfl 0 (Nat.le_of_ble_eq_true rfl) lk_X8_type_0 (v := .ref (ad 1)) rfl dX8_type_32 ?_
        refine j_iload_n (pc := 35) X dX8_type_35 rfl ?_
        obtain ⟨C7, h6, hf⟩ := kB hf
        refine j_callV (pc := 36) X Y (c_X6_append hI N C a1 h6) gX8_type_X6_append rfl ⟨rfl, rfl⟩ rfl hd_X6_append ⟨(Nat.le_of_ble_eq_true rfl), (Nat.le_of_ble_eq_true rfl)⟩ (wc6 kd_1) rfl rfl rfl (Nat.le_of_ble_eq_true rfl) rfl dX8_type_36 ?_
        refine j_aload_n (pc := 39) X dX8_type_39 rfl ?_
        refine j_get (pc := 40) X iw_X8_type_X8 (wc8 kd_0) rfl 0 (Nat.le_of_ble_eq_true rfl) lk_X8_type_0 (v := .ref (ad 1)) rfl dX8_type_40 ?_
        obtain ⟨r9, h8, hf⟩ := kB hf
        refine j_callI (pc := 43) X (c_X6_size N C7  h8) gX8_type_X6_size rfl ⟨rfl, rfl⟩ rfl hd_X6_size ⟨(Nat.le_of_ble_eq_true rfl), (Nat.le_of_ble_eq_true rfl)⟩ (wc6 kd_1) rfl rfl rfl (Nat.le_of_ble_eq_true rfl) rfl dX8_type_43 ?_
        exact j_retW hR dX8_type_46 hf
      · have hf := kF c5 hf
        refine j_bipush (pc := 28) X dX8_type_28 kb_m13 ?_
        exact j_retW hR dX8_type_30 hf
    · have hf := kF c2 hf
      refine j_bipush (pc := 12) X dX8_type_12 kb_m11 ?_
      exact j_retW hR dX8_type_14 hf
theorem c_X8_type {l : Launch} {D : va_G} {cI cS : ClassId} {ad : Nat → Nat} (hI : kInj 132 ad) (N : Nat) (C : kS) (a1 : Int32) {r : Int32} {Cr : kS} (hf : f_X8_type N C a1 = some (r, Cr)) : mW l yX8_type wsX8_type rm_X8_type D cI cS (WC cI cS ad) (kAd 132 ad) C [.ref (ad 0), .int a1] r Cr :=
  mW.of (by decide) rfl rfl (Nat.le_of_ble_eq_true rfl) (WC_D hI) (fun g X Y hR => t_X8_type X hI Y hR N C a1  hf)
abbrev rm_X8_widen : Room := { frames := 5, cells := 0, slots := 0, locals := 125 }
theorem lk_X8_widen_0 : Cond.fieldLink RX8 19 "BlackBars" "state" "LBlackBars$State;" ∈ wsX8_widen := List.mem_of_getElem? (i := 1) rfl
theorem iw_X8_widen_X8 : ∀ w ∈ wsX80, w ∈ wsX8_widen := fun _ h => List.mem_cons_of_mem _ (List.mem_append_left _ (List.mem_append_left _ (List.mem_append_left _ (List.mem_append_left _ (List.mem_append_left _ (List.mem_append_left _ (List.mem_append_left _ (List.mem_append_right _ h))))))))
theorem iw_X8_widen_X5 : ∀ w ∈ wsX50, w ∈ wsX8_widen := fun _ h => List.mem_cons_of_mem _ (List.mem_append_left _ (List.mem_append_left _ (List.mem_append_left _ (List.mem_append_left _ (List.mem_append_left _ (List.mem_append_left _ (List.mem_append_right _ h)))))))
theorem lk_X8_widen_1 : Cond.fieldLink RX8 26 "BlackBars" "history" "LBlackBars$History;" ∈ wsX8_widen := List.mem_of_getElem? (i := 2) rfl
theorem hd_X8_widen : kHd yX8_widen 2 := by decide +kernel
set_option maxHeartbeats 4000000 in
set_option maxRecDepth 100000 in
theorem t_X8_widen {g : kG} {cI cS : ClassId} {ad : Nat → Nat} (X : Kx g cI cS cX8_widen RX8 wsX8_widen 4 rm_X8_widen) {r : Int32} {Cr : kS} (hI : kInj 132 ad) (Y : Kw g (WC cI cS ad) (kAd 132 ad)) (hR : kRI g (WC cI cS ad) 4 cX8_widen .int Cr r) (N : Nat) (C : kS) (a1 : Int32) (a2 : Int32)  (hf : f_X8_widen N C a1 a2 = some (r, Cr)) : J g (WC cI cS ad) 4 C 0 [some (.ref (ad 0)), some (.int a1), some (.int a2), none] [] := by
  unfold f_X8_widen at hf
  refine j_iload_n (pc := 0) X dX8_widen_0 rfl ?_
  obtain ⟨r2, h1, hf⟩ := kB hf
  refine j_callP (pc := 1) X (c_X8_isLetter N a1 h1) gX8_widen_X8_isLetter rfl ⟨rfl, rfl⟩ hd_X8_isLetter ⟨(Nat.le_of_ble_eq_true rfl), (Nat.le_of_ble_eq_true rfl)⟩ rfl (Nat.le_of_ble_eq_true rfl) rfl dX8_widen_1 ?_
  refine j_if_eq (tgt := 18) (pc := 4) X dX8_widen_4 rfl (fun c3 => ?_) (fun c3 => ?_)
  · have hf := kT c3 hf
    refine j_bipush (pc := 18) X dX8_widen_18 kb_m11 ?_
    exact j_retW hR dX8_widen_20 hf
  · have hf := kF c3 hf
    refine j_iload_n (pc := 7) X dX8_widen_7 rfl ?_
    refine j_iconst (pc := 8) X dX8_widen_8 kc_1 ?_
    refine j_icmp_lt (tgt := 18) (pc := 9) X dX8_widen_9 rfl (fun c4 => ?_) (fun c4 => ?_)
    · have hf := kT c4 hf
      refine j_bipush (pc := 18) X dX8_widen_18 kb_m11 ?_
      exact j_retW hR dX8_widen_20 hf
    · have hf := kF c4 hf
      refine j_iload_n (pc := 12) X dX8_widen_12 rfl ?_
      refine j_bipush (pc := 13) X dX8_widen_13 kb_9 ?_
      refine j_icmp_le (tgt := 21) (pc := 15) X dX8_widen_15 rfl (fun c5 => ?_) (fun c5 => ?_)
      · have hf := kT c5 hf
        refine j_aload_n (pc := 21) X dX8_widen_21 rfl ?_
        refine j_get (pc := 22) X iw_X8_widen_X8 (wc8 kd_0) rfl 1 (Nat.le_of_ble_eq_true rfl) lk_X8_widen_0 (v := .ref (ad 4)) rfl dX8_widen_22 ?_
        refine j_getN (pc := 25) X iw_X8_widen_X5 (wc5 kd_4) rfl 3 (Nat.le_of_ble_eq_true rfl) (List.mem_of_getElem? (i := 1) rfl) (v := .ref (ad 20)) rfl dX8_widen_25 ?_
        refine j_iload_n (pc := 28) X dX8_widen_28 rfl ?_
        refine j_bipush (pc := 29) X dX8_widen_29 kb_97 ?_
        refine j_isub (pc := 31) X dX8_widen_31 ?_
        obtain ⟨r7, h6, hf⟩ := kB hf
        refine j_callI (pc := 32) X (c_X3_at N C 20 (kd5_16 kd_4 : kd 20 = 3) (a1 - 97) h6) gX8_widen_X3_at rfl ⟨rfl, rfl⟩ rfl hd_X3_at ⟨(Nat.le_of_ble_eq_true rfl), (Nat.le_of_ble_eq_true rfl)⟩ (wc3 (kd5_16 kd_4 : kd 20 = 3)) rfl rfl rfl (Nat.le_of_ble_eq_true rfl) rfl dX8_widen_32 ?_
        refine j_istore_n (pc := 35) X dX8_widen_35 (Nat.le_of_ble_eq_true rfl) (lv' := [some (.ref (ad 0)), some (.int a1), some (.int a2), some (.int r7)]) rfl ?_
        refine j_aload_n (pc := 36) X dX8_widen_36 rfl ?_
        refine j_get (pc := 37) X iw_X8_widen_X8 (wc8 kd_0) rfl 2 (Nat.le_of_ble_eq_true rfl) lk_X8_widen_1 (v := .ref (ad 24)) rfl dX8_widen_37 ?_
        refine j_aload_n (pc := 40) X dX8_widen_40 rfl ?_
        refine j_get (pc := 41) X iw_X8_widen_X8 (wc8 kd_0) rfl 1 (Nat.le_of_ble_eq_true rfl) lk_X8_widen_0 (v := .ref (ad 4)) rfl dX8_widen_41 ?_
        obtain ⟨C9, h8, hf⟩ := kB hf
        refine j_callV (pc := 44) X Y (c_X2_keep hI N C  h8) gX8_widen_X2_keep rfl ⟨rfl, rfl⟩ rfl hd_X2_keep ⟨(Nat.le_of_ble_eq_true rfl), (Nat.le_of_ble_eq_true rfl)⟩ (wc2 kd_24) rfl rfl rfl (Nat.le_of_ble_eq_true rfl) rfl dX8_widen_44 ?_
        refine j_aload_n (pc := 47) X dX8_widen_47 rfl ?_
        refine j_get (pc := 48) X iw_X8_widen_X8 (wc8 kd_0) rfl 1 (Nat.le_of_ble_eq_true rfl) lk_X8_widen_0 (v := .ref (ad 4)) rfl dX8_widen_48 ?_
        refine j_getN (pc := 51) X iw_X8_widen_X5 (wc5 kd_4) rfl 3 (Nat.le_of_ble_eq_true rfl) (List.mem_of_getElem? (i := 1) rfl) (v := .ref (ad 20)) rfl dX8_widen_51 ?_
        refine j_iload_n (pc := 54) X dX8_widen_54 rfl ?_
        refine j_bipush (pc := 55) X dX8_widen_55 kb_97 ?_
        refine j_isub (pc := 57) X dX8_widen_57 ?_
        refine j_iload_n (pc := 58) X dX8_widen_58 rfl ?_
        obtain ⟨C11, h10, hf⟩ := kB hf
        refine j_callV (pc := 59) X Y (c_X3_put hI N C9 20 (kd5_16 kd_4 : kd 20 = 3) (a1 - 97) a2 h10) gX8_widen_X3_put rfl ⟨rfl, rfl⟩ rfl hd_X3_put ⟨(Nat.le_of_ble_eq_true rfl), (Nat.le_of_ble_eq_true rfl)⟩ (wc3 (kd5_16 kd_4 : kd 20 = 3)) rfl rfl rfl (Nat.le_of_ble_eq_true rfl) rfl dX8_widen_59 ?_
        refine j_aload_n (pc := 62) X dX8_widen_62 rfl ?_
        obtain ⟨C13, h12, hf⟩ := kB hf
        refine j_callV (pc := 63) X Y (c_X8_workOut hI N C11  h12) gX8_widen_X8_workOut rfl ⟨rfl, rfl⟩ rfl hd_X8_workOut ⟨(Nat.le_of_ble_eq_true rfl), (Nat.le_of_ble_eq_true rfl)⟩ (wc8 kd_0) rfl rfl rfl (Nat.le_of_ble_eq_true rfl) rfl dX8_widen_63 ?_
        refine j_iload_n (pc := 66) X dX8_widen_66 rfl ?_
        exact j_retW hR dX8_widen_67 hf
      · have hf := kF c5 hf
        refine j_bipush (pc := 18) X dX8_widen_18 kb_m11 ?_
        exact j_retW hR dX8_widen_20 hf
theorem c_X8_widen {l : Launch} {D : va_G} {cI cS : ClassId} {ad : Nat → Nat} (hI : kInj 132 ad) (N : Nat) (C : kS) (a1 : Int32) (a2 : Int32) {r : Int32} {Cr : kS} (hf : f_X8_widen N C a1 a2 = some (r, Cr)) : mW l yX8_widen wsX8_widen rm_X8_widen D cI cS (WC cI cS ad) (kAd 132 ad) C [.ref (ad 0), .int a1, .int a2] r Cr :=
  mW.of (by decide) rfl rfl (Nat.le_of_ble_eq_true rfl) (WC_D hI) (fun g X Y hR => t_X8_widen X hI Y hR N C a1 a2  hf)
abbrev rm_X8_widthAgain : Room := { frames := 2, cells := 0, slots := 0, locals := 42 }
theorem lk_X8_widthAgain_0 : Cond.fieldLink RX8 54 "BlackBars" "sheet" "LBlackBars$Sheet;" ∈ wsX8_widthAgain := List.mem_of_getElem? (i := 1) rfl
theorem iw_X8_widthAgain_X8 : ∀ w ∈ wsX80, w ∈ wsX8_widthAgain := fun _ h => List.mem_cons_of_mem _ (List.mem_append_left _ (List.mem_append_left _ (List.mem_append_left _ (List.mem_append_left _ (List.mem_append_right _ h)))))
theorem hd_X8_widthAgain : kHd yX8_widthAgain 1 := by decide +kernel
set_option maxHeartbeats 4000000 in
set_option maxRecDepth 100000 in
theorem t_X8_widthAgain {g : kG} {cI cS : ClassId} {ad : Nat → Nat} {C : kS} (X : Kx g cI cS cX8_widthAgain RX8 wsX8_widthAgain 3 rm_X8_widthAgain) {r : Int32} (hR : kRI g (WC cI cS ad) 3 cX8_widthAgain .int C r) (N : Nat) (a1 : Int32)  (hf : f_X8_widthAgain N C a1 = some r) : J g (WC cI cS ad) 3 C 0 [some (.ref (ad 0)), some (.int a1), none] [] := by
  unfold f_X8_widthAgain at hf
  refine j_aload_n (pc := 0) X dX8_widthAgain_0 rfl ?_
  refine j_get (pc := 1) X iw_X8_widthAgain_X8 (wc8 kd_0) rfl 6 (Nat.le_of_ble_eq_true rfl) lk_X8_widthAgain_0 (v := .ref (ad 119)) rfl dX8_widthAgain_1 ?_
  refine j_iload_n (pc := 4) X dX8_widthAgain_4 rfl ?_
  obtain ⟨r2, h1, hf⟩ := kB hf
  refine j_callI (pc := 5) X (c_X4_hasLine N C a1 h1) gX8_widthAgain_X4_hasLine rfl ⟨rfl, rfl⟩ rfl hd_X4_hasLine ⟨(Nat.le_of_ble_eq_true rfl), (Nat.le_of_ble_eq_true rfl)⟩ (wc4 kd_119) rfl rfl rfl (Nat.le_of_ble_eq_true rfl) rfl dX8_widthAgain_5 ?_
  refine j_if_ne (tgt := 14) (pc := 8) X dX8_widthAgain_8 rfl (fun c3 => ?_) (fun c3 => ?_)
  · have hf := kF c3 hf
    refine j_aload_n (pc := 14) X dX8_widthAgain_14 rfl ?_
    refine j_get (pc := 15) X iw_X8_widthAgain_X8 (wc8 kd_0) rfl 6 (Nat.le_of_ble_eq_true rfl) lk_X8_widthAgain_0 (v := .ref (ad 119)) rfl dX8_widthAgain_15 ?_
    refine j_iload_n (pc := 18) X dX8_widthAgain_18 rfl ?_
    obtain ⟨r5, h4, hf⟩ := kB hf
    refine j_callI (pc := 19) X (c_X4_firstWordBehind N C a1 h4) gX8_widthAgain_X4_firstWordBehind rfl ⟨rfl, rfl⟩ rfl hd_X4_firstWordBehind ⟨(Nat.le_of_ble_eq_true rfl), (Nat.le_of_ble_eq_true rfl)⟩ (wc4 kd_119) rfl rfl rfl (Nat.le_of_ble_eq_true rfl) rfl dX8_widthAgain_19 ?_
    refine j_iconst (pc := 22) X dX8_widthAgain_22 kc_1 ?_
    refine j_isub (pc := 23) X dX8_widthAgain_23 ?_
    refine j_istore_n (pc := 24) X dX8_widthAgain_24 (Nat.le_of_ble_eq_true rfl) (lv' := [some (.ref (ad 0)), some (.int a1), some (.int (r5 - 1))]) rfl ?_
    refine j_aload_n (pc := 25) X dX8_widthAgain_25 rfl ?_
    refine j_get (pc := 26) X iw_X8_widthAgain_X8 (wc8 kd_0) rfl 6 (Nat.le_of_ble_eq_true rfl) lk_X8_widthAgain_0 (v := .ref (ad 119)) rfl dX8_widthAgain_26 ?_
    refine j_iload_n (pc := 29) X dX8_widthAgain_29 rfl ?_
    obtain ⟨r7, h6, hf⟩ := kB hf
    refine j_callI (pc := 30) X (c_X4_placeOf N C (r5 - 1) h6) gX8_widthAgain_X4_placeOf rfl ⟨rfl, rfl⟩ rfl hd_X4_placeOf ⟨(Nat.le_of_ble_eq_true rfl), (Nat.le_of_ble_eq_true rfl)⟩ (wc4 kd_119) rfl rfl rfl (Nat.le_of_ble_eq_true rfl) rfl dX8_widthAgain_30 ?_
    refine j_aload_n (pc := 33) X dX8_widthAgain_33 rfl ?_
    refine j_get (pc := 34) X iw_X8_widthAgain_X8 (wc8 kd_0) rfl 6 (Nat.le_of_ble_eq_true rfl) lk_X8_widthAgain_0 (v := .ref (ad 119)) rfl dX8_widthAgain_34 ?_
    refine j_iload_n (pc := 37) X dX8_widthAgain_37 rfl ?_
    obtain ⟨r9, h8, hf⟩ := kB hf
    refine j_callI (pc := 38) X (c_X4_shownWidthOf N C (r5 - 1) h8) gX8_widthAgain_X4_shownWidthOf rfl ⟨rfl, rfl⟩ rfl hd_X4_shownWidthOf ⟨(Nat.le_of_ble_eq_true rfl), (Nat.le_of_ble_eq_true rfl)⟩ (wc4 kd_119) rfl rfl rfl (Nat.le_of_ble_eq_true rfl) rfl dX8_widthAgain_38 ?_
    refine j_iadd (pc := 41) X dX8_widthAgain_41 ?_
    exact j_retI hR dX8_widthAgain_42 hf
  · have hf := kT c3 hf
    refine j_bipush (pc := 11) X dX8_widthAgain_11 kb_m11 ?_
    exact j_retI hR dX8_widthAgain_13 hf
theorem c_X8_widthAgain {l : Launch} {D : va_G} {cI cS : ClassId} {ad : Nat → Nat} (N : Nat) (C : kS) (a1 : Int32) {r : Int32} (hf : f_X8_widthAgain N C a1 = some r) : mI l yX8_widthAgain wsX8_widthAgain rm_X8_widthAgain D cI cS (WC cI cS ad) C [.ref (ad 0), .int a1] r :=
  mI.of (by decide) rfl rfl (Nat.le_of_ble_eq_true rfl) (fun g X hR => t_X8_widthAgain X  hR N a1  hf)
