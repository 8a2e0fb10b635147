abbrev rm_X9_word : Room := { frames := 6, cells := 0, slots := 0, locals := 134 }
theorem lk_X9_word_0 : Cond.fieldLink RX9 7 "BlackBarsModel" "s" "[I" ∈ wsX9_word := List.mem_of_getElem? (i := 1) rfl
theorem iw_X9_word_X9 : ∀ w ∈ wsX90, w ∈ wsX9_word := fun _ h => List.mem_cons_of_mem _ (List.mem_append_right _ h)
theorem lk_X9_word_1 : Cond.fieldLink RX9 31 "BlackBarsModel" "shown" "[I" ∈ wsX9_word := List.mem_of_getElem? (i := 2) rfl
theorem lk_X9_word_2 : Cond.fieldLink RX9 28 "BlackBarsModel" "formOf" "[I" ∈ wsX9_word := List.mem_of_getElem? (i := 3) rfl
theorem lk_X9_word_3 : Cond.fieldLink RX9 34 "BlackBarsModel" "lineOf" "[I" ∈ wsX9_word := List.mem_of_getElem? (i := 4) rfl
theorem lk_X9_word_4 : Cond.fieldLink RX9 37 "BlackBarsModel" "placeOf" "[I" ∈ wsX9_word := List.mem_of_getElem? (i := 5) rfl
def f_X9_word (N : Nat) (C : kS) (a1 : Int32) (a2 : Int32) : Option (Int32 × kS) := (f_X9_isWord N C a1).bind (fun r2 => if r2 = 0 then some ((-11), C) else (f_X9_in N a2 0 9).bind (fun r5 => if r5 = 0 then some ((-11), C) else (f_X9_laysNow N C).bind (fun C8 => if a2 = 0 then gIn (34 + (13 * a1)) 642 (some (C8 1 (34 + (13 * a1)).toNatClampNeg, C8)) else if a2 = 1 then (f_X9_widthAt N C8 (34 + (13 * a1))).bind (fun r13 => some (r13, C8)) else if a2 = 2 then gIn a1 40 (some (C8 8 a1.toNatClampNeg, C8)) else if a2 = 3 then gIn a1 40 (jn (fun (t18 : Int32) => some (t18, C8)) (fun j118_18 => if 0 ≤ (C8 7 a1.toNatClampNeg) then j118_18 1 else j118_18 0)) else if a2 = 4 then (f_X9_hiddenOf N C8 a1 a2).bind (fun r23 => some (r23, C8)) else if a2 = 5 then (f_X9_hiddenOf N C8 a1 a2).bind (fun r26 => some (r26, C8)) else if a2 = 6 then gIn a1 40 (some (C8 9 a1.toNatClampNeg, C8)) else if a2 = 7 then gIn a1 40 (some (C8 10 a1.toNatClampNeg, C8)) else (f_X9_hiddenOf N C8 a1 a2).bind (fun r32 => some (r32, C8)))))
theorem hd_X9_word : kHd yX9_word 2 := by decide +kernel
set_option maxHeartbeats 4000000 in
set_option maxRecDepth 100000 in
theorem t_X9_word {g : kG} {cI cS : ClassId} {am : Nat → Nat} (X : Kx g cI cS cX9_word RX9 wsX9_word 3 rm_X9_word) {r : Int32} {Cr : kS} (hI : kInj 11 am) (Y : Kw g (WM cI am) (kAd 11 am)) (hR : kRI g (WM cI am) 3 cX9_word .int Cr r) (N : Nat) (C : kS) (a1 : Int32) (a2 : Int32)  (hf : f_X9_word N C a1 a2 = some (r, Cr)) : J g (WM cI am) 3 C 0 [some (.ref (am 0)), some (.int a1), some (.int a2)] [] := by
  unfold f_X9_word at hf
  refine j_aload_n (pc := 0) X dX9_word_0 rfl ?_
  refine j_iload_n (pc := 1) X dX9_word_1 rfl ?_
  obtain ⟨r2, h1, hf⟩ := kB hf
  refine j_callI (pc := 2) X (c_X9_isWord N C a1 h1) gX9_word_X9_isWord rfl ⟨rfl, rfl⟩ rfl hd_X9_isWord ⟨(Nat.le_of_ble_eq_true rfl), (Nat.le_of_ble_eq_true rfl)⟩ wm0 rfl rfl rfl (Nat.le_of_ble_eq_true rfl) rfl dX9_word_2 ?_
  refine j_if_eq (tgt := 18) (pc := 5) X dX9_word_5 rfl (fun c3 => ?_) (fun c3 => ?_)
  · have hf := kT c3 hf
    refine j_bipush (pc := 18) X dX9_word_18 kb_m11 ?_
    exact j_retW hR dX9_word_20 hf
  · have hf := kF c3 hf
    refine j_iload_n (pc := 8) X dX9_word_8 rfl ?_
    refine j_iconst (pc := 9) X dX9_word_9 kc_0 ?_
    refine j_bipush (pc := 10) X dX9_word_10 kb_9 ?_
    obtain ⟨r5, h4, hf⟩ := kB hf
    refine j_callP (pc := 12) X (c_X9_in N a2 0 9 h4) gX9_word_X9_in rfl ⟨rfl, rfl⟩ hd_X9_in ⟨(Nat.le_of_ble_eq_true rfl), (Nat.le_of_ble_eq_true rfl)⟩ rfl (Nat.le_of_ble_eq_true rfl) rfl dX9_word_12 ?_
    refine j_if_ne (tgt := 21) (pc := 15) X dX9_word_15 rfl (fun c6 => ?_) (fun c6 => ?_)
    · have hf := kF c6 hf
      refine j_aload_n (pc := 21) X dX9_word_21 rfl ?_
      obtain ⟨C8, h7, hf⟩ := kB hf
      refine j_callV (pc := 22) X Y (c_X9_laysNow hI N C  h7) gX9_word_X9_laysNow rfl ⟨rfl, rfl⟩ rfl hd_X9_laysNow ⟨(Nat.le_of_ble_eq_true rfl), (Nat.le_of_ble_eq_true rfl)⟩ wm0 rfl rfl rfl (Nat.le_of_ble_eq_true rfl) rfl dX9_word_22 ?_
      refine j_iload_n (pc := 25) X dX9_word_25 rfl ?_
      rcases Decidable.em (a2 = 0) with c9 | c9
      · have hf := kT c9 hf
        refine j_tabIn (v := 0) (off := 46) (tgt := 72) (pc := 26) X dX9_word_26 c9 (by decide) (by decide) (by decide) rfl ?_
        refine j_aload_n (pc := 72) X dX9_word_72 rfl ?_
        refine j_get (pc := 73) X iw_X9_word_X9 wm0 rfl 0 (Nat.le_of_ble_eq_true rfl) lk_X9_word_0 (v := .ref (am 1)) rfl dX9_word_73 ?_
        refine j_bipush (pc := 76) X dX9_word_76 kb_34 ?_
        refine j_bipush (pc := 78) X dX9_word_78 kb_13 ?_
        refine j_iload_n (pc := 80) X dX9_word_80 rfl ?_
        refine j_imul (pc := 81) X dX9_word_81 ?_
        refine j_iadd (pc := 82) X dX9_word_82 ?_
        obtain ⟨b10, hf⟩ := gIn_s hf
        refine j_iald (pc := 83) X wm1 b10 dX9_word_83 ?_
        exact j_retW hR dX9_word_84 hf
      · have hf := kF c9 hf
        rcases Decidable.em (a2 = 1) with c11 | c11
        · have hf := kT c11 hf
          refine j_tabIn (v := 1) (off := 59) (tgt := 85) (pc := 26) X dX9_word_26 c11 (by decide) (by decide) (by decide) rfl ?_
          refine j_aload_n (pc := 85) X dX9_word_85 rfl ?_
          refine j_bipush (pc := 86) X dX9_word_86 kb_34 ?_
          refine j_bipush (pc := 88) X dX9_word_88 kb_13 ?_
          refine j_iload_n (pc := 90) X dX9_word_90 rfl ?_
          refine j_imul (pc := 91) X dX9_word_91 ?_
          refine j_iadd (pc := 92) X dX9_word_92 ?_
          obtain ⟨r13, h12, hf⟩ := kB hf
          refine j_callI (pc := 93) X (c_X9_widthAt N C8 (34 + (13 * a1)) h12) gX9_word_X9_widthAt rfl ⟨rfl, rfl⟩ rfl hd_X9_widthAt ⟨(Nat.le_of_ble_eq_true rfl), (Nat.le_of_ble_eq_true rfl)⟩ wm0 rfl rfl rfl (Nat.le_of_ble_eq_true rfl) rfl dX9_word_93 ?_
          exact j_retW hR dX9_word_96 hf
        · have hf := kF c11 hf
          rcases Decidable.em (a2 = 2) with c14 | c14
          · have hf := kT c14 hf
            refine j_tabIn (v := 2) (off := 71) (tgt := 97) (pc := 26) X dX9_word_26 c14 (by decide) (by decide) (by decide) rfl ?_
            refine j_aload_n (pc := 97) X dX9_word_97 rfl ?_
            refine j_get (pc := 98) X iw_X9_word_X9 wm0 rfl 11 (Nat.le_of_ble_eq_true rfl) lk_X9_word_1 (v := .ref (am 8)) rfl dX9_word_98 ?_
            refine j_iload_n (pc := 101) X dX9_word_101 rfl ?_
            obtain ⟨b15, hf⟩ := gIn_s hf
            refine j_iald (pc := 102) X wm8 b15 dX9_word_102 ?_
            exact j_retW hR dX9_word_103 hf
          · have hf := kF c14 hf
            rcases Decidable.em (a2 = 3) with c16 | c16
            · have hf := kT c16 hf
              refine j_tabIn (v := 3) (off := 78) (tgt := 104) (pc := 26) X dX9_word_26 c16 (by decide) (by decide) (by decide) rfl ?_
              refine j_aload_n (pc := 104) X dX9_word_104 rfl ?_
              refine j_get (pc := 105) X iw_X9_word_X9 wm0 rfl 10 (Nat.le_of_ble_eq_true rfl) lk_X9_word_2 (v := .ref (am 7)) rfl dX9_word_105 ?_
              refine j_iload_n (pc := 108) X dX9_word_108 rfl ?_
              obtain ⟨b17, hf⟩ := gIn_s hf
              refine j_iald (pc := 109) X wm7 b17 dX9_word_109 ?_
              obtain ⟨j118_18, ej118_18, hf⟩ := jn_s hf
              have hj118_18 : ∀ (t18 : Int32), j118_18 t18 = some (r, Cr) → J g (WM cI am) 3 C8 118 [some (.ref (am 0)), some (.int a1), some (.int a2)] [.int t18] := by
                intro t18 hf
                have hf := jE1 ej118_18 hf
                exact j_retW hR dX9_word_118 hf
              refine j_if_ge (tgt := 117) (pc := 110) X dX9_word_110 rfl (fun c20 => ?_) (fun c20 => ?_)
              · have hf := kT c20 hf
                refine j_iconst (pc := 117) X dX9_word_117 kc_1 ?_
                exact hj118_18 _ hf
              · have hf := kF c20 hf
                refine j_iconst (pc := 113) X dX9_word_113 kc_0 ?_
                refine j_goto (tgt := 118) (pc := 114) X dX9_word_114 rfl ?_
                exact hj118_18 _ hf
            · have hf := kF c16 hf
              rcases Decidable.em (a2 = 4) with c21 | c21
              · have hf := kT c21 hf
                refine j_tabIn (v := 4) (off := 107) (tgt := 133) (pc := 26) X dX9_word_26 c21 (by decide) (by decide) (by decide) rfl ?_
                refine j_aload_n (pc := 133) X dX9_word_133 rfl ?_
                refine j_iload_n (pc := 134) X dX9_word_134 rfl ?_
                refine j_iload_n (pc := 135) X dX9_word_135 rfl ?_
                obtain ⟨r23, h22, hf⟩ := kB hf
                refine j_callI (pc := 136) X (c_X9_hiddenOf N C8 a1 a2 h22) gX9_word_X9_hiddenOf rfl ⟨rfl, rfl⟩ rfl hd_X9_hiddenOf ⟨(Nat.le_of_ble_eq_true rfl), (Nat.le_of_ble_eq_true rfl)⟩ wm0 rfl rfl rfl (Nat.le_of_ble_eq_true rfl) rfl dX9_word_136 ?_
                exact j_retW hR dX9_word_139 hf
              · have hf := kF c21 hf
                rcases Decidable.em (a2 = 5) with c24 | c24
                · have hf := kT c24 hf
                  refine j_tabIn (v := 5) (off := 107) (tgt := 133) (pc := 26) X dX9_word_26 c24 (by decide) (by decide) (by decide) rfl ?_
                  refine j_aload_n (pc := 133) X dX9_word_133 rfl ?_
                  refine j_iload_n (pc := 134) X dX9_word_134 rfl ?_
                  refine j_iload_n (pc := 135) X dX9_word_135 rfl ?_
                  obtain ⟨r26, h25, hf⟩ := kB hf
                  refine j_callI (pc := 136) X (c_X9_hiddenOf N C8 a1 a2 h25) gX9_word_X9_hiddenOf rfl ⟨rfl, rfl⟩ rfl hd_X9_hiddenOf ⟨(Nat.le_of_ble_eq_true rfl), (Nat.le_of_ble_eq_true rfl)⟩ wm0 rfl rfl rfl (Nat.le_of_ble_eq_true rfl) rfl dX9_word_136 ?_
                  exact j_retW hR dX9_word_139 hf
                · have hf := kF c24 hf
                  rcases Decidable.em (a2 = 6) with c27 | c27
                  · have hf := kT c27 hf
                    refine j_tabIn (v := 6) (off := 93) (tgt := 119) (pc := 26) X dX9_word_26 c27 (by decide) (by decide) (by decide) rfl ?_
                    refine j_aload_n (pc := 119) X dX9_word_119 rfl ?_
                    refine j_get (pc := 120) X iw_X9_word_X9 wm0 rfl 12 (Nat.le_of_ble_eq_true rfl) lk_X9_word_3 (v := .ref (am 9)) rfl dX9_word_120 ?_
                    refine j_iload_n (pc := 123) X dX9_word_123 rfl ?_
                    obtain ⟨b28, hf⟩ := gIn_s hf
                    refine j_iald (pc := 124) X wm9 b28 dX9_word_124 ?_
                    exact j_retW hR dX9_word_125 hf
                  · have hf := kF c27 hf
                    rcases Decidable.em (a2 = 7) with c29 | c29
                    · have hf := kT c29 hf
                      refine j_tabIn (v := 7) (off := 100) (tgt := 126) (pc := 26) X dX9_word_26 c29 (by decide) (by decide) (by decide) rfl ?_
                      refine j_aload_n (pc := 126) X dX9_word_126 rfl ?_
                      refine j_get (pc := 127) X iw_X9_word_X9 wm0 rfl 13 (Nat.le_of_ble_eq_true rfl) lk_X9_word_4 (v := .ref (am 10)) rfl dX9_word_127 ?_
                      refine j_iload_n (pc := 130) X dX9_word_130 rfl ?_
                      obtain ⟨b30, hf⟩ := gIn_s hf
                      refine j_iald (pc := 131) X wm10 b30 dX9_word_131 ?_
                      exact j_retW hR dX9_word_132 hf
                    · have hf := kF c29 hf
                      refine j_tabOut (tgt := 133) (pc := 26) X dX9_word_26 (by have gc9 := lv_neT (a := 0) c9 (by decide); have gc11 := lv_neT (a := 1) c11 (by decide); have gc14 := lv_neT (a := 2) c14 (by decide); have gc16 := lv_neT (a := 3) c16 (by decide); have gc21 := lv_neT (a := 4) c21 (by decide); have gc24 := lv_neT (a := 5) c24 (by decide); have gc27 := lv_neT (a := 6) c27 (by decide); have gc29 := lv_neT (a := 7) c29 (by decide); omega) rfl ?_
                      refine j_aload_n (pc := 133) X dX9_word_133 rfl ?_
                      refine j_iload_n (pc := 134) X dX9_word_134 rfl ?_
                      refine j_iload_n (pc := 135) X dX9_word_135 rfl ?_
                      obtain ⟨r32, h31, hf⟩ := kB hf
                      refine j_callI (pc := 136) X (c_X9_hiddenOf N C8 a1 a2 h31) gX9_word_X9_hiddenOf rfl ⟨rfl, rfl⟩ rfl hd_X9_hiddenOf ⟨(Nat.le_of_ble_eq_true rfl), (Nat.le_of_ble_eq_true rfl)⟩ wm0 rfl rfl rfl (Nat.le_of_ble_eq_true rfl) rfl dX9_word_136 ?_
                      exact j_retW hR dX9_word_139 hf
    · have hf := kT c6 hf
      refine j_bipush (pc := 18) X dX9_word_18 kb_m11 ?_
      exact j_retW hR dX9_word_20 hf
theorem c_X9_word {l : Launch} {D : va_G} {cI cS : ClassId} {am : Nat → Nat} (hI : kInj 11 am) (N : Nat) (C : kS) (a1 : Int32) (a2 : Int32) {r : Int32} {Cr : kS} (hf : f_X9_word N C a1 a2 = some (r, Cr)) : mW l yX9_word wsX9_word rm_X9_word D cI cS (WM cI am) (kAd 11 am) C [.ref (am 0), .int a1, .int a2] r Cr :=
  mW.of (by decide) rfl rfl (Nat.le_of_ble_eq_true rfl) (WM_D hI) (fun g X Y hR => t_X9_word X hI Y hR N C a1 a2  hf)
