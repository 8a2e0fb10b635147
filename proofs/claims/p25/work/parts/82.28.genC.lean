abbrev rm_X8_word : Room := { frames := 3, cells := 0, slots := 0, locals := 67 }
theorem lk_X8_word_0 : Cond.fieldLink RX8 19 "BlackBars" "state" "LBlackBars$State;" ∈ wsX8_word := List.mem_of_getElem? (i := 1) rfl
theorem iw_X8_word_X8 : ∀ w ∈ wsX80, w ∈ wsX8_word := fun _ h => List.mem_cons_of_mem _ (List.mem_append_left _ (List.mem_append_left _ (List.mem_append_left _ (List.mem_append_left _ (List.mem_append_left _ (List.mem_append_left _ (List.mem_append_right _ h)))))))
theorem iw_X8_word_X5 : ∀ w ∈ wsX50, w ∈ wsX8_word := fun _ h => List.mem_cons_of_mem _ (List.mem_append_left _ (List.mem_append_left _ (List.mem_append_left _ (List.mem_append_left _ (List.mem_append_left _ (List.mem_append_right _ h))))))
theorem lk_X8_word_1 : Cond.fieldLink RX8 54 "BlackBars" "sheet" "LBlackBars$Sheet;" ∈ wsX8_word := List.mem_of_getElem? (i := 2) rfl
theorem hd_X8_word : kHd yX8_word 2 := by decide +kernel
set_option maxHeartbeats 4000000 in
set_option maxRecDepth 100000 in
theorem t_X8_word {g : kG} {cI cS : ClassId} {ad : Nat → Nat} {C : kS} (X : Kx g cI cS cX8_word RX8 wsX8_word 3 rm_X8_word) {r : Int32} (hR : kRI g (WC cI cS ad) 3 cX8_word .int C r) (N : Nat) (a1 : Int32) (a2 : Int32)  (hf : f_X8_word N C a1 a2 = some r) : J g (WC cI cS ad) 3 C 0 [some (.ref (ad 0)), some (.int a1), some (.int a2)] [] := by
  unfold f_X8_word at hf
  refine j_aload_n (pc := 0) X dX8_word_0 rfl ?_
  refine j_get (pc := 1) X iw_X8_word_X8 (wc8 kd_0) rfl 1 (Nat.le_of_ble_eq_true rfl) lk_X8_word_0 (v := .ref (ad 4)) rfl dX8_word_1 ?_
  refine j_getN (pc := 4) X iw_X8_word_X5 (wc5 kd_4) rfl 0 (Nat.le_of_ble_eq_true rfl) (List.mem_of_getElem? (i := 3) rfl) (v := .ref (ad 5)) rfl dX8_word_4 ?_
  refine j_iload_n (pc := 7) X dX8_word_7 rfl ?_
  obtain ⟨r2, h1, hf⟩ := kB hf
  refine j_callI (pc := 8) X (c_X7_has N C 5 (kd5_1 kd_4 : kd 5 = 7) a1 h1) gX8_word_X7_has rfl ⟨rfl, rfl⟩ rfl hd_X7_has ⟨(Nat.le_of_ble_eq_true rfl), (Nat.le_of_ble_eq_true rfl)⟩ (wc7 (kd5_1 kd_4 : kd 5 = 7)) rfl rfl rfl (Nat.le_of_ble_eq_true rfl) rfl dX8_word_8 ?_
  refine j_if_eq (tgt := 24) (pc := 11) X dX8_word_11 rfl (fun c3 => ?_) (fun c3 => ?_)
  · have hf := kT c3 hf
    refine j_bipush (pc := 24) X dX8_word_24 kb_m11 ?_
    exact j_retI hR dX8_word_26 hf
  · have hf := kF c3 hf
    refine j_iload_n (pc := 14) X dX8_word_14 rfl ?_
    refine j_if_lt (tgt := 24) (pc := 15) X dX8_word_15 rfl (fun c4 => ?_) (fun c4 => ?_)
    · have hf := kT c4 hf
      refine j_bipush (pc := 24) X dX8_word_24 kb_m11 ?_
      exact j_retI hR dX8_word_26 hf
    · have hf := kF c4 hf
      refine j_iload_n (pc := 18) X dX8_word_18 rfl ?_
      refine j_bipush (pc := 19) X dX8_word_19 kb_9 ?_
      refine j_icmp_le (tgt := 27) (pc := 21) X dX8_word_21 rfl (fun c5 => ?_) (fun c5 => ?_)
      · have hf := kT c5 hf
        refine j_iload_n (pc := 27) X dX8_word_27 rfl ?_
        rcases Decidable.em (a2 = 0) with c6 | c6
        · have hf := kT c6 hf
          refine j_tabIn (v := 0) (off := 48) (tgt := 76) (pc := 28) X dX8_word_28 c6 (by decide) (by decide) (by decide) rfl ?_
          refine j_aload_n (pc := 76) X dX8_word_76 rfl ?_
          refine j_get (pc := 77) X iw_X8_word_X8 (wc8 kd_0) rfl 1 (Nat.le_of_ble_eq_true rfl) lk_X8_word_0 (v := .ref (ad 4)) rfl dX8_word_77 ?_
          refine j_getN (pc := 80) X iw_X8_word_X5 (wc5 kd_4) rfl 0 (Nat.le_of_ble_eq_true rfl) (List.mem_of_getElem? (i := 3) rfl) (v := .ref (ad 5)) rfl dX8_word_80 ?_
          refine j_iload_n (pc := 83) X dX8_word_83 rfl ?_
          obtain ⟨r8, h7, hf⟩ := kB hf
          refine j_callI (pc := 84) X (c_X7_lengthOf N C 5 (kd5_1 kd_4 : kd 5 = 7) a1 h7) gX8_word_X7_lengthOf rfl ⟨rfl, rfl⟩ rfl hd_X7_lengthOf ⟨(Nat.le_of_ble_eq_true rfl), (Nat.le_of_ble_eq_true rfl)⟩ (wc7 (kd5_1 kd_4 : kd 5 = 7)) rfl rfl rfl (Nat.le_of_ble_eq_true rfl) rfl dX8_word_84 ?_
          exact j_retI hR dX8_word_87 hf
        · have hf := kF c6 hf
          rcases Decidable.em (a2 = 1) with c9 | c9
          · have hf := kT c9 hf
            refine j_tabIn (v := 1) (off := 60) (tgt := 88) (pc := 28) X dX8_word_28 c9 (by decide) (by decide) (by decide) rfl ?_
            refine j_aload_n (pc := 88) X dX8_word_88 rfl ?_
            refine j_get (pc := 89) X iw_X8_word_X8 (wc8 kd_0) rfl 6 (Nat.le_of_ble_eq_true rfl) lk_X8_word_1 (v := .ref (ad 119)) rfl dX8_word_89 ?_
            refine j_iload_n (pc := 92) X dX8_word_92 rfl ?_
            obtain ⟨r11, h10, hf⟩ := kB hf
            refine j_callI (pc := 93) X (c_X4_ownWidthOf N C a1 h10) gX8_word_X4_ownWidthOf rfl ⟨rfl, rfl⟩ rfl hd_X4_ownWidthOf ⟨(Nat.le_of_ble_eq_true rfl), (Nat.le_of_ble_eq_true rfl)⟩ (wc4 kd_119) rfl rfl rfl (Nat.le_of_ble_eq_true rfl) rfl dX8_word_93 ?_
            exact j_retI hR dX8_word_96 hf
          · have hf := kF c9 hf
            rcases Decidable.em (a2 = 2) with c12 | c12
            · have hf := kT c12 hf
              refine j_tabIn (v := 2) (off := 69) (tgt := 97) (pc := 28) X dX8_word_28 c12 (by decide) (by decide) (by decide) rfl ?_
              refine j_aload_n (pc := 97) X dX8_word_97 rfl ?_
              refine j_get (pc := 98) X iw_X8_word_X8 (wc8 kd_0) rfl 6 (Nat.le_of_ble_eq_true rfl) lk_X8_word_1 (v := .ref (ad 119)) rfl dX8_word_98 ?_
              refine j_iload_n (pc := 101) X dX8_word_101 rfl ?_
              obtain ⟨r14, h13, hf⟩ := kB hf
              refine j_callI (pc := 102) X (c_X4_shownWidthOf N C a1 h13) gX8_word_X4_shownWidthOf rfl ⟨rfl, rfl⟩ rfl hd_X4_shownWidthOf ⟨(Nat.le_of_ble_eq_true rfl), (Nat.le_of_ble_eq_true rfl)⟩ (wc4 kd_119) rfl rfl rfl (Nat.le_of_ble_eq_true rfl) rfl dX8_word_102 ?_
              exact j_retI hR dX8_word_105 hf
            · have hf := kF c12 hf
              rcases Decidable.em (a2 = 3) with c15 | c15
              · have hf := kT c15 hf
                refine j_tabIn (v := 3) (off := 78) (tgt := 106) (pc := 28) X dX8_word_28 c15 (by decide) (by decide) (by decide) rfl ?_
                refine j_aload_n (pc := 106) X dX8_word_106 rfl ?_
                refine j_get (pc := 107) X iw_X8_word_X8 (wc8 kd_0) rfl 6 (Nat.le_of_ble_eq_true rfl) lk_X8_word_1 (v := .ref (ad 119)) rfl dX8_word_107 ?_
                refine j_iload_n (pc := 110) X dX8_word_110 rfl ?_
                obtain ⟨r17, h16, hf⟩ := kB hf
                refine j_callI (pc := 111) X (c_X4_isHidden N C a1 h16) gX8_word_X4_isHidden rfl ⟨rfl, rfl⟩ rfl hd_X4_isHidden ⟨(Nat.le_of_ble_eq_true rfl), (Nat.le_of_ble_eq_true rfl)⟩ (wc4 kd_119) rfl rfl rfl (Nat.le_of_ble_eq_true rfl) rfl dX8_word_111 ?_
                obtain ⟨j122_18, ej122_18, hf⟩ := jn_s hf
                have hj122_18 : ∀ (t18 : Int32), j122_18 t18 = some r → J g (WC cI cS ad) 3 C 122 [some (.ref (ad 0)), some (.int a1), some (.int a2)] [.int t18] := by
                  intro t18 hf
                  have hf := jE1 ej122_18 hf
                  exact j_retI hR dX8_word_122 hf
                refine j_if_eq (tgt := 121) (pc := 114) X dX8_word_114 rfl (fun c20 => ?_) (fun c20 => ?_)
                · have hf := kT c20 hf
                  refine j_iconst (pc := 121) X dX8_word_121 kc_0 ?_
                  exact hj122_18 _ hf
                · have hf := kF c20 hf
                  refine j_iconst (pc := 117) X dX8_word_117 kc_1 ?_
                  refine j_goto (tgt := 122) (pc := 118) X dX8_word_118 rfl ?_
                  exact hj122_18 _ hf
              · have hf := kF c15 hf
                rcases Decidable.em (a2 = 4) with c21 | c21
                · have hf := kT c21 hf
                  refine j_tabIn (v := 4) (off := 113) (tgt := 141) (pc := 28) X dX8_word_28 c21 (by decide) (by decide) (by decide) rfl ?_
                  refine j_aload_n (pc := 141) X dX8_word_141 rfl ?_
                  refine j_iload_n (pc := 142) X dX8_word_142 rfl ?_
                  refine j_iload_n (pc := 143) X dX8_word_143 rfl ?_
                  obtain ⟨r23, h22, hf⟩ := kB hf
                  refine j_callI (pc := 144) X (c_X8_hiddenWord N C a1 a2 h22) gX8_word_X8_hiddenWord rfl ⟨rfl, rfl⟩ rfl hd_X8_hiddenWord ⟨(Nat.le_of_ble_eq_true rfl), (Nat.le_of_ble_eq_true rfl)⟩ (wc8 kd_0) rfl rfl rfl (Nat.le_of_ble_eq_true rfl) rfl dX8_word_144 ?_
                  exact j_retI hR dX8_word_147 hf
                · have hf := kF c21 hf
                  rcases Decidable.em (a2 = 5) with c24 | c24
                  · have hf := kT c24 hf
                    refine j_tabIn (v := 5) (off := 113) (tgt := 141) (pc := 28) X dX8_word_28 c24 (by decide) (by decide) (by decide) rfl ?_
                    refine j_aload_n (pc := 141) X dX8_word_141 rfl ?_
                    refine j_iload_n (pc := 142) X dX8_word_142 rfl ?_
                    refine j_iload_n (pc := 143) X dX8_word_143 rfl ?_
                    obtain ⟨r26, h25, hf⟩ := kB hf
                    refine j_callI (pc := 144) X (c_X8_hiddenWord N C a1 a2 h25) gX8_word_X8_hiddenWord rfl ⟨rfl, rfl⟩ rfl hd_X8_hiddenWord ⟨(Nat.le_of_ble_eq_true rfl), (Nat.le_of_ble_eq_true rfl)⟩ (wc8 kd_0) rfl rfl rfl (Nat.le_of_ble_eq_true rfl) rfl dX8_word_144 ?_
                    exact j_retI hR dX8_word_147 hf
                  · have hf := kF c24 hf
                    rcases Decidable.em (a2 = 6) with c27 | c27
                    · have hf := kT c27 hf
                      refine j_tabIn (v := 6) (off := 95) (tgt := 123) (pc := 28) X dX8_word_28 c27 (by decide) (by decide) (by decide) rfl ?_
                      refine j_aload_n (pc := 123) X dX8_word_123 rfl ?_
                      refine j_get (pc := 124) X iw_X8_word_X8 (wc8 kd_0) rfl 6 (Nat.le_of_ble_eq_true rfl) lk_X8_word_1 (v := .ref (ad 119)) rfl dX8_word_124 ?_
                      refine j_iload_n (pc := 127) X dX8_word_127 rfl ?_
                      obtain ⟨r29, h28, hf⟩ := kB hf
                      refine j_callI (pc := 128) X (c_X4_lineOf N C a1 h28) gX8_word_X4_lineOf rfl ⟨rfl, rfl⟩ rfl hd_X4_lineOf ⟨(Nat.le_of_ble_eq_true rfl), (Nat.le_of_ble_eq_true rfl)⟩ (wc4 kd_119) rfl rfl rfl (Nat.le_of_ble_eq_true rfl) rfl dX8_word_128 ?_
                      exact j_retI hR dX8_word_131 hf
                    · have hf := kF c27 hf
                      rcases Decidable.em (a2 = 7) with c30 | c30
                      · have hf := kT c30 hf
                        refine j_tabIn (v := 7) (off := 104) (tgt := 132) (pc := 28) X dX8_word_28 c30 (by decide) (by decide) (by decide) rfl ?_
                        refine j_aload_n (pc := 132) X dX8_word_132 rfl ?_
                        refine j_get (pc := 133) X iw_X8_word_X8 (wc8 kd_0) rfl 6 (Nat.le_of_ble_eq_true rfl) lk_X8_word_1 (v := .ref (ad 119)) rfl dX8_word_133 ?_
                        refine j_iload_n (pc := 136) X dX8_word_136 rfl ?_
                        obtain ⟨r32, h31, hf⟩ := kB hf
                        refine j_callI (pc := 137) X (c_X4_placeOf N C a1 h31) gX8_word_X4_placeOf rfl ⟨rfl, rfl⟩ rfl hd_X4_placeOf ⟨(Nat.le_of_ble_eq_true rfl), (Nat.le_of_ble_eq_true rfl)⟩ (wc4 kd_119) rfl rfl rfl (Nat.le_of_ble_eq_true rfl) rfl dX8_word_137 ?_
                        exact j_retI hR dX8_word_140 hf
                      · have hf := kF c30 hf
                        refine j_tabOut (tgt := 141) (pc := 28) X dX8_word_28 (by have gc6 := lv_neT (a := 0) c6 (by decide); have gc9 := lv_neT (a := 1) c9 (by decide); have gc12 := lv_neT (a := 2) c12 (by decide); have gc15 := lv_neT (a := 3) c15 (by decide); have gc21 := lv_neT (a := 4) c21 (by decide); have gc24 := lv_neT (a := 5) c24 (by decide); have gc27 := lv_neT (a := 6) c27 (by decide); have gc30 := lv_neT (a := 7) c30 (by decide); omega) rfl ?_
                        refine j_aload_n (pc := 141) X dX8_word_141 rfl ?_
                        refine j_iload_n (pc := 142) X dX8_word_142 rfl ?_
                        refine j_iload_n (pc := 143) X dX8_word_143 rfl ?_
                        obtain ⟨r34, h33, hf⟩ := kB hf
                        refine j_callI (pc := 144) X (c_X8_hiddenWord N C a1 a2 h33) gX8_word_X8_hiddenWord rfl ⟨rfl, rfl⟩ rfl hd_X8_hiddenWord ⟨(Nat.le_of_ble_eq_true rfl), (Nat.le_of_ble_eq_true rfl)⟩ (wc8 kd_0) rfl rfl rfl (Nat.le_of_ble_eq_true rfl) rfl dX8_word_144 ?_
                        exact j_retI hR dX8_word_147 hf
      · have hf := kF c5 hf
        refine j_bipush (pc := 24) X dX8_word_24 kb_m11 ?_
        exact j_retI hR dX8_word_26 hf
theorem c_X8_word {l : Launch} {D : va_G} {cI cS : ClassId} {ad : Nat → Nat} (N : Nat) (C : kS) (a1 : Int32) (a2 : Int32) {r : Int32} (hf : f_X8_word N C a1 a2 = some r) : mI l yX8_word wsX8_word rm_X8_word D cI cS (WC cI cS ad) C [.ref (ad 0), .int a1, .int a2] r :=
  mI.of (by decide) rfl rfl (Nat.le_of_ble_eq_true rfl) (fun g X hR => t_X8_word X  hR N a1 a2  hf)
