abbrev rm_X8_count : Room := { frames := 4, cells := 0, slots := 0, locals := 89 }
theorem lk_X8_count_0 : Cond.fieldLink RX8 19 "BlackBars" "state" "LBlackBars$State;" ∈ wsX8_count := List.mem_of_getElem? (i := 1) rfl
theorem iw_X8_count_X8 : ∀ w ∈ wsX80, w ∈ wsX8_count := fun _ h => List.mem_cons_of_mem _ (List.mem_append_left _ (List.mem_append_left _ (List.mem_append_left _ (List.mem_append_left _ (List.mem_append_left _ (List.mem_append_left _ (List.mem_append_left _ (List.mem_append_left _ (List.mem_append_right _ h)))))))))
theorem iw_X8_count_X5 : ∀ w ∈ wsX50, w ∈ wsX8_count := fun _ h => List.mem_cons_of_mem _ (List.mem_append_left _ (List.mem_append_left _ (List.mem_append_left _ (List.mem_append_left _ (List.mem_append_left _ (List.mem_append_left _ (List.mem_append_left _ (List.mem_append_right _ h))))))))
theorem lk_X8_count_1 : Cond.fieldLink RX8 54 "BlackBars" "sheet" "LBlackBars$Sheet;" ∈ wsX8_count := List.mem_of_getElem? (i := 2) rfl
theorem lk_X8_count_2 : Cond.fieldLink RX8 33 "BlackBars" "forms" "LBlackBars$Forms;" ∈ wsX8_count := List.mem_of_getElem? (i := 3) rfl
theorem lk_X8_count_3 : Cond.fieldLink RX8 42 "BlackBars" "bars" "LBlackBars$Bars;" ∈ wsX8_count := List.mem_of_getElem? (i := 4) rfl
theorem lk_X8_count_4 : Cond.fieldLink RX8 26 "BlackBars" "history" "LBlackBars$History;" ∈ wsX8_count := List.mem_of_getElem? (i := 5) rfl
theorem lk_X8_count_5 : Cond.fieldLink RX8 12 "BlackBars" "text" "LBlackBars$Text;" ∈ wsX8_count := List.mem_of_getElem? (i := 6) rfl
def f_X8_count (N : Nat) (C : kS) (a1 : Int32) : Option (Int32) := if a1 = 0 then (f_X7_size N C 5).bind (fun r3 => some r3) else if a1 = 1 then (f_X7_size N C 5).bind (fun r6 => (f_X4_barsBetween N C 0 r6).bind (fun r8 => some r8)) else if a1 = 2 then (f_X4_lineCount N C).bind (fun r11 => some r11) else if a1 = 3 then (f_X7_size N C 10).bind (fun r14 => some r14) else if a1 = 4 then (f_X7_size N C 15).bind (fun r17 => some r17) else if a1 = 5 then (f_X1_size N C).bind (fun r20 => some r20) else if a1 = 6 then (f_X3_at N C 22 0).bind (fun r23 => some r23) else if a1 = 7 then (f_X3_at N C 22 1).bind (fun r26 => some r26) else if a1 = 8 then (f_X3_at N C 22 2).bind (fun r29 => some r29) else if a1 = 9 then (f_X3_at N C 22 3).bind (fun r32 => some r32) else if a1 = 10 then (f_X3_at N C 22 4).bind (fun r35 => some r35) else if a1 = 11 then (f_X4_betrayedBars N C 113).bind (fun r38 => some r38) else if a1 = 12 then (f_X4_sumOfShownWidths N C 113).bind (fun r41 => some r41) else if a1 = 13 then (f_X4_sumOfGaps N C 113).bind (fun r44 => some r44) else if a1 = 14 then (f_X4_differentBarWidths N C).bind (fun r47 => some r47) else if a1 = 15 then (f_X2_size N C).bind (fun r50 => some r50) else if a1 = 16 then (f_X6_size N C).bind (fun r53 => some r53) else some (-11)
theorem hd_X8_count : kHd yX8_count 1 := by decide +kernel
set_option maxHeartbeats 4000000 in
set_option maxRecDepth 100000 in
theorem t_X8_count {g : kG} {cI cS : ClassId} {ad : Nat → Nat} {C : kS} (X : Kx g cI cS cX8_count RX8 wsX8_count 2 rm_X8_count) {r : Int32} (hR : kRI g (WC cI cS ad) 2 cX8_count .int C r) (N : Nat) (a1 : Int32)  (hf : f_X8_count N C a1 = some r) : J g (WC cI cS ad) 2 C 0 [some (.ref (ad 0)), some (.int a1)] [] := by
  unfold f_X8_count at hf
  refine j_iload_n (pc := 0) X dX8_count_0 rfl ?_
  rcases Decidable.em (a1 = 0) with c1 | c1
  · have hf := kT c1 hf
    refine j_tabIn (v := 0) (off := 83) (tgt := 84) (pc := 1) X dX8_count_1 c1 (by decide) (by decide) (by decide) rfl ?_
    refine j_aload_n (pc := 84) X dX8_count_84 rfl ?_
    refine j_get (pc := 85) X iw_X8_count_X8 (wc8 kd_0) rfl 1 (Nat.le_of_ble_eq_true rfl) lk_X8_count_0 (v := .ref (ad 4)) rfl dX8_count_85 ?_
    refine j_getN (pc := 88) X iw_X8_count_X5 (wc5 kd_4) rfl 0 (Nat.le_of_ble_eq_true rfl) (List.mem_of_getElem? (i := 3) rfl) (v := .ref (ad 5)) rfl dX8_count_88 ?_
    obtain ⟨r3, h2, hf⟩ := kB hf
    refine j_callI (pc := 91) X (c_X7_size N C 5 (kd5_1 kd_4 : kd 5 = 7) h2) gX8_count_X7_size rfl ⟨rfl, rfl⟩ rfl hd_X7_size ⟨(Nat.le_of_ble_eq_true rfl), (Nat.le_of_ble_eq_true rfl)⟩ (wc7 (kd5_1 kd_4 : kd 5 = 7)) rfl rfl rfl (Nat.le_of_ble_eq_true rfl) rfl dX8_count_91 ?_
    exact j_retI hR dX8_count_94 hf
  · have hf := kF c1 hf
    rcases Decidable.em (a1 = 1) with c4 | c4
    · have hf := kT c4 hf
      refine j_tabIn (v := 1) (off := 94) (tgt := 95) (pc := 1) X dX8_count_1 c4 (by decide) (by decide) (by decide) rfl ?_
      refine j_aload_n (pc := 95) X dX8_count_95 rfl ?_
      refine j_get (pc := 96) X iw_X8_count_X8 (wc8 kd_0) rfl 6 (Nat.le_of_ble_eq_true rfl) lk_X8_count_1 (v := .ref (ad 119)) rfl dX8_count_96 ?_
      refine j_iconst (pc := 99) X dX8_count_99 kc_0 ?_
      refine j_aload_n (pc := 100) X dX8_count_100 rfl ?_
      refine j_get (pc := 101) X iw_X8_count_X8 (wc8 kd_0) rfl 1 (Nat.le_of_ble_eq_true rfl) lk_X8_count_0 (v := .ref (ad 4)) rfl dX8_count_101 ?_
      refine j_getN (pc := 104) X iw_X8_count_X5 (wc5 kd_4) rfl 0 (Nat.le_of_ble_eq_true rfl) (List.mem_of_getElem? (i := 3) rfl) (v := .ref (ad 5)) rfl dX8_count_104 ?_
      obtain ⟨r6, h5, hf⟩ := kB hf
      refine j_callI (pc := 107) X (c_X7_size N C 5 (kd5_1 kd_4 : kd 5 = 7) h5) gX8_count_X7_size rfl ⟨rfl, rfl⟩ rfl hd_X7_size ⟨(Nat.le_of_ble_eq_true rfl), (Nat.le_of_ble_eq_true rfl)⟩ (wc7 (kd5_1 kd_4 : kd 5 = 7)) rfl rfl rfl (Nat.le_of_ble_eq_true rfl) rfl dX8_count_107 ?_
      obtain ⟨r8, h7, hf⟩ := kB hf
      refine j_callI (pc := 110) X (c_X4_barsBetween N C 0 r6 h7) gX8_count_X4_barsBetween rfl ⟨rfl, rfl⟩ rfl hd_X4_barsBetween ⟨(Nat.le_of_ble_eq_true rfl), (Nat.le_of_ble_eq_true rfl)⟩ (wc4 kd_119) rfl rfl rfl (Nat.le_of_ble_eq_true rfl) rfl dX8_count_110 ?_
      exact j_retI hR dX8_count_113 hf
    · have hf := kF c4 hf
      rcases Decidable.em (a1 = 2) with c9 | c9
      · have hf := kT c9 hf
        refine j_tabIn (v := 2) (off := 113) (tgt := 114) (pc := 1) X dX8_count_1 c9 (by decide) (by decide) (by decide) rfl ?_
        refine j_aload_n (pc := 114) X dX8_count_114 rfl ?_
        refine j_get (pc := 115) X iw_X8_count_X8 (wc8 kd_0) rfl 6 (Nat.le_of_ble_eq_true rfl) lk_X8_count_1 (v := .ref (ad 119)) rfl dX8_count_115 ?_
        obtain ⟨r11, h10, hf⟩ := kB hf
        refine j_callI (pc := 118) X (c_X4_lineCount N C  h10) gX8_count_X4_lineCount rfl ⟨rfl, rfl⟩ rfl hd_X4_lineCount ⟨(Nat.le_of_ble_eq_true rfl), (Nat.le_of_ble_eq_true rfl)⟩ (wc4 kd_119) rfl rfl rfl (Nat.le_of_ble_eq_true rfl) rfl dX8_count_118 ?_
        exact j_retI hR dX8_count_121 hf
      · have hf := kF c9 hf
        rcases Decidable.em (a1 = 3) with c12 | c12
        · have hf := kT c12 hf
          refine j_tabIn (v := 3) (off := 121) (tgt := 122) (pc := 1) X dX8_count_1 c12 (by decide) (by decide) (by decide) rfl ?_
          refine j_aload_n (pc := 122) X dX8_count_122 rfl ?_
          refine j_get (pc := 123) X iw_X8_count_X8 (wc8 kd_0) rfl 1 (Nat.le_of_ble_eq_true rfl) lk_X8_count_0 (v := .ref (ad 4)) rfl dX8_count_123 ?_
          refine j_getN (pc := 126) X iw_X8_count_X5 (wc5 kd_4) rfl 1 (Nat.le_of_ble_eq_true rfl) (List.mem_of_getElem? (i := 4) rfl) (v := .ref (ad 10)) rfl dX8_count_126 ?_
          obtain ⟨r14, h13, hf⟩ := kB hf
          refine j_callI (pc := 129) X (c_X7_size N C 10 (kd5_6 kd_4 : kd 10 = 7) h13) gX8_count_X7_size rfl ⟨rfl, rfl⟩ rfl hd_X7_size ⟨(Nat.le_of_ble_eq_true rfl), (Nat.le_of_ble_eq_true rfl)⟩ (wc7 (kd5_6 kd_4 : kd 10 = 7)) rfl rfl rfl (Nat.le_of_ble_eq_true rfl) rfl dX8_count_129 ?_
          exact j_retI hR dX8_count_132 hf
        · have hf := kF c12 hf
          rcases Decidable.em (a1 = 4) with c15 | c15
          · have hf := kT c15 hf
            refine j_tabIn (v := 4) (off := 132) (tgt := 133) (pc := 1) X dX8_count_1 c15 (by decide) (by decide) (by decide) rfl ?_
            refine j_aload_n (pc := 133) X dX8_count_133 rfl ?_
            refine j_get (pc := 134) X iw_X8_count_X8 (wc8 kd_0) rfl 1 (Nat.le_of_ble_eq_true rfl) lk_X8_count_0 (v := .ref (ad 4)) rfl dX8_count_134 ?_
            refine j_getN (pc := 137) X iw_X8_count_X5 (wc5 kd_4) rfl 2 (Nat.le_of_ble_eq_true rfl) (List.mem_of_getElem? (i := 0) rfl) (v := .ref (ad 15)) rfl dX8_count_137 ?_
            obtain ⟨r17, h16, hf⟩ := kB hf
            refine j_callI (pc := 140) X (c_X7_size N C 15 (kd5_11 kd_4 : kd 15 = 7) h16) gX8_count_X7_size rfl ⟨rfl, rfl⟩ rfl hd_X7_size ⟨(Nat.le_of_ble_eq_true rfl), (Nat.le_of_ble_eq_true rfl)⟩ (wc7 (kd5_11 kd_4 : kd 15 = 7)) rfl rfl rfl (Nat.le_of_ble_eq_true rfl) rfl dX8_count_140 ?_
            exact j_retI hR dX8_count_143 hf
          · have hf := kF c15 hf
            rcases Decidable.em (a1 = 5) with c18 | c18
            · have hf := kT c18 hf
              refine j_tabIn (v := 5) (off := 143) (tgt := 144) (pc := 1) X dX8_count_1 c18 (by decide) (by decide) (by decide) rfl ?_
              refine j_aload_n (pc := 144) X dX8_count_144 rfl ?_
              refine j_get (pc := 145) X iw_X8_count_X8 (wc8 kd_0) rfl 3 (Nat.le_of_ble_eq_true rfl) lk_X8_count_2 (v := .ref (ad 106)) rfl dX8_count_145 ?_
              obtain ⟨r20, h19, hf⟩ := kB hf
              refine j_callI (pc := 148) X (c_X1_size N C  h19) gX8_count_X1_size rfl ⟨rfl, rfl⟩ rfl hd_X1_size ⟨(Nat.le_of_ble_eq_true rfl), (Nat.le_of_ble_eq_true rfl)⟩ (wc1 kd_106) rfl rfl rfl (Nat.le_of_ble_eq_true rfl) rfl dX8_count_148 ?_
              exact j_retI hR dX8_count_151 hf
            · have hf := kF c18 hf
              rcases Decidable.em (a1 = 6) with c21 | c21
              · have hf := kT c21 hf
                refine j_tabIn (v := 6) (off := 151) (tgt := 152) (pc := 1) X dX8_count_1 c21 (by decide) (by decide) (by decide) rfl ?_
                refine j_aload_n (pc := 152) X dX8_count_152 rfl ?_
                refine j_get (pc := 153) X iw_X8_count_X8 (wc8 kd_0) rfl 1 (Nat.le_of_ble_eq_true rfl) lk_X8_count_0 (v := .ref (ad 4)) rfl dX8_count_153 ?_
                refine j_getN (pc := 156) X iw_X8_count_X5 (wc5 kd_4) rfl 4 (Nat.le_of_ble_eq_true rfl) (List.mem_of_getElem? (i := 2) rfl) (v := .ref (ad 22)) rfl dX8_count_156 ?_
                refine j_iconst (pc := 159) X dX8_count_159 kc_0 ?_
                obtain ⟨r23, h22, hf⟩ := kB hf
                refine j_callI (pc := 160) X (c_X3_at N C 22 (kd5_18 kd_4 : kd 22 = 3) 0 h22) gX8_count_X3_at rfl ⟨rfl, rfl⟩ rfl hd_X3_at ⟨(Nat.le_of_ble_eq_true rfl), (Nat.le_of_ble_eq_true rfl)⟩ (wc3 (kd5_18 kd_4 : kd 22 = 3)) rfl rfl rfl (Nat.le_of_ble_eq_true rfl) rfl dX8_count_160 ?_
                exact j_retI hR dX8_count_163 hf
              · have hf := kF c21 hf
                rcases Decidable.em (a1 = 7) with c24 | c24
                · have hf := kT c24 hf
                  refine j_tabIn (v := 7) (off := 163) (tgt := 164) (pc := 1) X dX8_count_1 c24 (by decide) (by decide) (by decide) rfl ?_
                  refine j_aload_n (pc := 164) X dX8_count_164 rfl ?_
                  refine j_get (pc := 165) X iw_X8_count_X8 (wc8 kd_0) rfl 1 (Nat.le_of_ble_eq_true rfl) lk_X8_count_0 (v := .ref (ad 4)) rfl dX8_count_165 ?_
                  refine j_getN (pc := 168) X iw_X8_count_X5 (wc5 kd_4) rfl 4 (Nat.le_of_ble_eq_true rfl) (List.mem_of_getElem? (i := 2) rfl) (v := .ref (ad 22)) rfl dX8_count_168 ?_
                  refine j_iconst (pc := 171) X dX8_count_171 kc_1 ?_
                  obtain ⟨r26, h25, hf⟩ := kB hf
                  refine j_callI (pc := 172) X (c_X3_at N C 22 (kd5_18 kd_4 : kd 22 = 3) 1 h25) gX8_count_X3_at rfl ⟨rfl, rfl⟩ rfl hd_X3_at ⟨(Nat.le_of_ble_eq_true rfl), (Nat.le_of_ble_eq_true rfl)⟩ (wc3 (kd5_18 kd_4 : kd 22 = 3)) rfl rfl rfl (Nat.le_of_ble_eq_true rfl) rfl dX8_count_172 ?_
                  exact j_retI hR dX8_count_175 hf
                · have hf := kF c24 hf
                  rcases Decidable.em (a1 = 8) with c27 | c27
                  · have hf := kT c27 hf
                    refine j_tabIn (v := 8) (off := 175) (tgt := 176) (pc := 1) X dX8_count_1 c27 (by decide) (by decide) (by decide) rfl ?_
                    refine j_aload_n (pc := 176) X dX8_count_176 rfl ?_
                    refine j_get (pc := 177) X iw_X8_count_X8 (wc8 kd_0) rfl 1 (Nat.le_of_ble_eq_true rfl) lk_X8_count_0 (v := .ref (ad 4)) rfl dX8_count_177 ?_
                    refine j_getN (pc := 180) X iw_X8_count_X5 (wc5 kd_4) rfl 4 (Nat.le_of_ble_eq_true rfl) (List.mem_of_getElem? (i := 2) rfl) (v := .ref (ad 22)) rfl dX8_count_180 ?_
                    refine j_iconst (pc := 183) X dX8_count_183 kc_2 ?_
                    obtain ⟨r29, h28, hf⟩ := kB hf
                    refine j_callI (pc := 184) X (c_X3_at N C 22 (kd5_18 kd_4 : kd 22 = 3) 2 h28) gX8_count_X3_at rfl ⟨rfl, rfl⟩ rfl hd_X3_at ⟨(Nat.le_of_ble_eq_true rfl), (Nat.le_of_ble_eq_true rfl)⟩ (wc3 (kd5_18 kd_4 : kd 22 = 3)) rfl rfl rfl (Nat.le_of_ble_eq_true rfl) rfl dX8_count_184 ?_
                    exact j_retI hR dX8_count_187 hf
                  · have hf := kF c27 hf
                    rcases Decidable.em (a1 = 9) with c30 | c30
                    · have hf := kT c30 hf
                      refine j_tabIn (v := 9) (off := 187) (tgt := 188) (pc := 1) X dX8_count_1 c30 (by decide) (by decide) (by decide) rfl ?_
                      refine j_aload_n (pc := 188) X dX8_count_188 rfl ?_
                      refine j_get (pc := 189) X iw_X8_count_X8 (wc8 kd_0) rfl 1 (Nat.le_of_ble_eq_true rfl) lk_X8_count_0 (v := .ref (ad 4)) rfl dX8_count_189 ?_
                      refine j_getN (pc := 192) X iw_X8_count_X5 (wc5 kd_4) rfl 4 (Nat.le_of_ble_eq_true rfl) (List.mem_of_getElem? (i := 2) rfl) (v := .ref (ad 22)) rfl dX8_count_192 ?_
                      refine j_iconst (pc := 195) X dX8_count_195 kc_3 ?_
                      obtain ⟨r32, h31, hf⟩ := kB hf
                      refine j_callI (pc := 196) X (c_X3_at N C 22 (kd5_18 kd_4 : kd 22 = 3) 3 h31) gX8_count_X3_at rfl ⟨rfl, rfl⟩ rfl hd_X3_at ⟨(Nat.le_of_ble_eq_true rfl), (Nat.le_of_ble_eq_true rfl)⟩ (wc3 (kd5_18 kd_4 : kd 22 = 3)) rfl rfl rfl (Nat.le_of_ble_eq_true rfl) rfl dX8_count_196 ?_
                      exact j_retI hR dX8_count_199 hf
                    · have hf := kF c30 hf
                      rcases Decidable.em (a1 = 10) with c33 | c33
                      · have hf := kT c33 hf
                        refine j_tabIn (v := 10) (off := 199) (tgt := 200) (pc := 1) X dX8_count_1 c33 (by decide) (by decide) (by decide) rfl ?_
                        refine j_aload_n (pc := 200) X dX8_count_200 rfl ?_
                        refine j_get (pc := 201) X iw_X8_count_X8 (wc8 kd_0) rfl 1 (Nat.le_of_ble_eq_true rfl) lk_X8_count_0 (v := .ref (ad 4)) rfl dX8_count_201 ?_
                        refine j_getN (pc := 204) X iw_X8_count_X5 (wc5 kd_4) rfl 4 (Nat.le_of_ble_eq_true rfl) (List.mem_of_getElem? (i := 2) rfl) (v := .ref (ad 22)) rfl dX8_count_204 ?_
                        refine j_iconst (pc := 207) X dX8_count_207 kc_4 ?_
                        obtain ⟨r35, h34, hf⟩ := kB hf
                        refine j_callI (pc := 208) X (c_X3_at N C 22 (kd5_18 kd_4 : kd 22 = 3) 4 h34) gX8_count_X3_at rfl ⟨rfl, rfl⟩ rfl hd_X3_at ⟨(Nat.le_of_ble_eq_true rfl), (Nat.le_of_ble_eq_true rfl)⟩ (wc3 (kd5_18 kd_4 : kd 22 = 3)) rfl rfl rfl (Nat.le_of_ble_eq_true rfl) rfl dX8_count_208 ?_
                        exact j_retI hR dX8_count_211 hf
                      · have hf := kF c33 hf
                        rcases Decidable.em (a1 = 11) with c36 | c36
                        · have hf := kT c36 hf
                          refine j_tabIn (v := 11) (off := 211) (tgt := 212) (pc := 1) X dX8_count_1 c36 (by decide) (by decide) (by decide) rfl ?_
                          refine j_aload_n (pc := 212) X dX8_count_212 rfl ?_
                          refine j_get (pc := 213) X iw_X8_count_X8 (wc8 kd_0) rfl 6 (Nat.le_of_ble_eq_true rfl) lk_X8_count_1 (v := .ref (ad 119)) rfl dX8_count_213 ?_
                          refine j_aload_n (pc := 216) X dX8_count_216 rfl ?_
                          refine j_get (pc := 217) X iw_X8_count_X8 (wc8 kd_0) rfl 4 (Nat.le_of_ble_eq_true rfl) lk_X8_count_3 (v := .ref (ad 113)) rfl dX8_count_217 ?_
                          obtain ⟨r38, h37, hf⟩ := kB hf
                          refine j_callI (pc := 220) X (c_X4_betrayedBars N C 113 kd_113 h37) gX8_count_X4_betrayedBars rfl ⟨rfl, rfl⟩ rfl hd_X4_betrayedBars ⟨(Nat.le_of_ble_eq_true rfl), (Nat.le_of_ble_eq_true rfl)⟩ (wc4 kd_119) rfl rfl rfl (Nat.le_of_ble_eq_true rfl) rfl dX8_count_220 ?_
                          exact j_retI hR dX8_count_223 hf
                        · have hf := kF c36 hf
                          rcases Decidable.em (a1 = 12) with c39 | c39
                          · have hf := kT c39 hf
                            refine j_tabIn (v := 12) (off := 223) (tgt := 224) (pc := 1) X dX8_count_1 c39 (by decide) (by decide) (by decide) rfl ?_
                            refine j_aload_n (pc := 224) X dX8_count_224 rfl ?_
                            refine j_get (pc := 225) X iw_X8_count_X8 (wc8 kd_0) rfl 6 (Nat.le_of_ble_eq_true rfl) lk_X8_count_1 (v := .ref (ad 119)) rfl dX8_count_225 ?_
                            refine j_aload_n (pc := 228) X dX8_count_228 rfl ?_
                            refine j_get (pc := 229) X iw_X8_count_X8 (wc8 kd_0) rfl 4 (Nat.le_of_ble_eq_true rfl) lk_X8_count_3 (v := .ref (ad 113)) rfl dX8_count_229 ?_
                            obtain ⟨r41, h40, hf⟩ := kB hf
                            refine j_callI (pc := 232) X (c_X4_sumOfShownWidths N C 113 kd_113 h40) gX8_count_X4_sumOfShownWidths rfl ⟨rfl, rfl⟩ rfl hd_X4_sumOfShownWidths ⟨(Nat.le_of_ble_eq_true rfl), (Nat.le_of_ble_eq_true rfl)⟩ (wc4 kd_119) rfl rfl rfl (Nat.le_of_ble_eq_true rfl) rfl dX8_count_232 ?_
                            exact j_retI hR dX8_count_235 hf
                          · have hf := kF c39 hf
                            rcases Decidable.em (a1 = 13) with c42 | c42
                            · have hf := kT c42 hf
                              refine j_tabIn (v := 13) (off := 235) (tgt := 236) (pc := 1) X dX8_count_1 c42 (by decide) (by decide) (by decide) rfl ?_
                              refine j_aload_n (pc := 236) X dX8_count_236 rfl ?_
                              refine j_get (pc := 237) X iw_X8_count_X8 (wc8 kd_0) rfl 6 (Nat.le_of_ble_eq_true rfl) lk_X8_count_1 (v := .ref (ad 119)) rfl dX8_count_237 ?_
                              refine j_aload_n (pc := 240) X dX8_count_240 rfl ?_
                              refine j_get (pc := 241) X iw_X8_count_X8 (wc8 kd_0) rfl 4 (Nat.le_of_ble_eq_true rfl) lk_X8_count_3 (v := .ref (ad 113)) rfl dX8_count_241 ?_
                              obtain ⟨r44, h43, hf⟩ := kB hf
                              refine j_callI (pc := 244) X (c_X4_sumOfGaps N C 113 kd_113 h43) gX8_count_X4_sumOfGaps rfl ⟨rfl, rfl⟩ rfl hd_X4_sumOfGaps ⟨(Nat.le_of_ble_eq_true rfl), (Nat.le_of_ble_eq_true rfl)⟩ (wc4 kd_119) rfl rfl rfl (Nat.le_of_ble_eq_true rfl) rfl dX8_count_244 ?_
                              exact j_retI hR dX8_count_247 hf
                            · have hf := kF c42 hf
                              rcases Decidable.em (a1 = 14) with c45 | c45
                              · have hf := kT c45 hf
                                refine j_tabIn (v := 14) (off := 247) (tgt := 248) (pc := 1) X dX8_count_1 c45 (by decide) (by decide) (by decide) rfl ?_
                                refine j_aload_n (pc := 248) X dX8_count_248 rfl ?_
                                refine j_get (pc := 249) X iw_X8_count_X8 (wc8 kd_0) rfl 6 (Nat.le_of_ble_eq_true rfl) lk_X8_count_1 (v := .ref (ad 119)) rfl dX8_count_249 ?_
                                obtain ⟨r47, h46, hf⟩ := kB hf
                                refine j_callI (pc := 252) X (c_X4_differentBarWidths N C  h46) gX8_count_X4_differentBarWidths rfl ⟨rfl, rfl⟩ rfl hd_X4_differentBarWidths ⟨(Nat.le_of_ble_eq_true rfl), (Nat.le_of_ble_eq_true rfl)⟩ (wc4 kd_119) rfl rfl rfl (Nat.le_of_ble_eq_true rfl) rfl dX8_count_252 ?_
                                exact j_retI hR dX8_count_255 hf
                              · have hf := kF c45 hf
                                rcases Decidable.em (a1 = 15) with c48 | c48
                                · have hf := kT c48 hf
                                  refine j_tabIn (v := 15) (off := 255) (tgt := 256) (pc := 1) X dX8_count_1 c48 (by decide) (by decide) (by decide) rfl ?_
                                  refine j_aload_n (pc := 256) X dX8_count_256 rfl ?_
                                  refine j_get (pc := 257) X iw_X8_count_X8 (wc8 kd_0) rfl 2 (Nat.le_of_ble_eq_true rfl) lk_X8_count_4 (v := .ref (ad 24)) rfl dX8_count_257 ?_
                                  obtain ⟨r50, h49, hf⟩ := kB hf
                                  refine j_callI (pc := 260) X (c_X2_size N C  h49) gX8_count_X2_size rfl ⟨rfl, rfl⟩ rfl hd_X2_size ⟨(Nat.le_of_ble_eq_true rfl), (Nat.le_of_ble_eq_true rfl)⟩ (wc2 kd_24) rfl rfl rfl (Nat.le_of_ble_eq_true rfl) rfl dX8_count_260 ?_
                                  exact j_retI hR dX8_count_263 hf
                                · have hf := kF c48 hf
                                  rcases Decidable.em (a1 = 16) with c51 | c51
                                  · have hf := kT c51 hf
                                    refine j_tabIn (v := 16) (off := 263) (tgt := 264) (pc := 1) X dX8_count_1 c51 (by decide) (by decide) (by decide) rfl ?_
                                    refine j_aload_n (pc := 264) X dX8_count_264 rfl ?_
                                    refine j_get (pc := 265) X iw_X8_count_X8 (wc8 kd_0) rfl 0 (Nat.le_of_ble_eq_true rfl) lk_X8_count_5 (v := .ref (ad 1)) rfl dX8_count_265 ?_
                                    obtain ⟨r53, h52, hf⟩ := kB hf
                                    refine j_callI (pc := 268) X (c_X6_size N C  h52) gX8_count_X6_size rfl ⟨rfl, rfl⟩ rfl hd_X6_size ⟨(Nat.le_of_ble_eq_true rfl), (Nat.le_of_ble_eq_true rfl)⟩ (wc6 kd_1) rfl rfl rfl (Nat.le_of_ble_eq_true rfl) rfl dX8_count_268 ?_
                                    exact j_retI hR dX8_count_271 hf
                                  · have hf := kF c51 hf
                                    refine j_tabOut (tgt := 272) (pc := 1) X dX8_count_1 (by have gc1 := lv_neT (a := 0) c1 (by decide); have gc4 := lv_neT (a := 1) c4 (by decide); have gc9 := lv_neT (a := 2) c9 (by decide); have gc12 := lv_neT (a := 3) c12 (by decide); have gc15 := lv_neT (a := 4) c15 (by decide); have gc18 := lv_neT (a := 5) c18 (by decide); have gc21 := lv_neT (a := 6) c21 (by decide); have gc24 := lv_neT (a := 7) c24 (by decide); have gc27 := lv_neT (a := 8) c27 (by decide); have gc30 := lv_neT (a := 9) c30 (by decide); have gc33 := lv_neT (a := 10) c33 (by decide); have gc36 := lv_neT (a := 11) c36 (by decide); have gc39 := lv_neT (a := 12) c39 (by decide); have gc42 := lv_neT (a := 13) c42 (by decide); have gc45 := lv_neT (a := 14) c45 (by decide); have gc48 := lv_neT (a := 15) c48 (by decide); have gc51 := lv_neT (a := 16) c51 (by decide); omega) rfl ?_
                                    refine j_bipush (pc := 272) X dX8_count_272 kb_m11 ?_
                                    exact j_retI hR dX8_count_274 hf
theorem c_X8_count {l : Launch} {D : va_G} {cI cS : ClassId} {ad : Nat → Nat} (N : Nat) (C : kS) (a1 : Int32) {r : Int32} (hf : f_X8_count N C a1 = some r) : mI l yX8_count wsX8_count rm_X8_count D cI cS (WC cI cS ad) C [.ref (ad 0), .int a1] r :=
  mI.of (by decide) rfl rfl (Nat.le_of_ble_eq_true rfl) (fun g X hR => t_X8_count X  hR N a1  hf)
abbrev rm_X8_dropFrom : Room := { frames := 5, cells := 0, slots := 0, locals := 125 }
theorem lk_X8_dropFrom_0 : Cond.fieldLink RX8 26 "BlackBars" "history" "LBlackBars$History;" ∈ wsX8_dropFrom := List.mem_of_getElem? (i := 1) rfl
theorem iw_X8_dropFrom_X8 : ∀ w ∈ wsX80, w ∈ wsX8_dropFrom := fun _ h => List.mem_cons_of_mem _ (List.mem_append_left _ (List.mem_append_left _ (List.mem_append_left _ (List.mem_append_left _ (List.mem_append_left _ (List.mem_append_left _ (List.mem_append_left _ (List.mem_append_right _ h))))))))
theorem lk_X8_dropFrom_1 : Cond.fieldLink RX8 19 "BlackBars" "state" "LBlackBars$State;" ∈ wsX8_dropFrom := List.mem_of_getElem? (i := 2) rfl
def f_X8_dropFrom (N : Nat) (C : kS) (k1 : Nat) (a2 : Int32) : Option (Int32 × kS) := (f_X7_has N C k1 a2).bind (fun r2 => if r2 = 0 then some ((-11), C) else (f_X2_keep N C).bind (fun C5 => (f_X7_remove N C5 k1 a2).bind (fun C7 => (f_X8_workOut N C7).bind (fun C9 => (f_X7_size N C9 k1).bind (fun r11 => some (r11, C9))))))
theorem hd_X8_dropFrom : kHd yX8_dropFrom 2 := by decide +kernel
set_option maxHeartbeats 4000000 in
set_option maxRecDepth 100000 in
theorem t_X8_dropFrom {g : kG} {cI cS : ClassId} {ad : Nat → Nat} (X : Kx g cI cS cX8_dropFrom RX8 wsX8_dropFrom 3 rm_X8_dropFrom) {r : Int32} {Cr : kS} (hI : kInj 132 ad) (Y : Kw g (WC cI cS ad) (kAd 132 ad)) (hR : kRI g (WC cI cS ad) 3 cX8_dropFrom .int Cr r) (N : Nat) (C : kS) (k1 : Nat) (a2 : Int32) (hk1 : kd k1 = 7) (hf : f_X8_dropFrom N C k1 a2 = some (r, Cr)) : J g (WC cI cS ad) 3 C 0 [some (.ref (ad 0)), some (.ref (ad k1)), some (.int a2)] [] := by
  unfold f_X8_dropFrom at hf
  refine j_aload_n (pc := 0) X dX8_dropFrom_0 rfl ?_
  refine j_iload_n (pc := 1) X dX8_dropFrom_1 rfl ?_
  obtain ⟨r2, h1, hf⟩ := kB hf
  refine j_callI (pc := 2) X (c_X7_has N C k1 hk1 a2 h1) gX8_dropFrom_X7_has rfl ⟨rfl, rfl⟩ rfl hd_X7_has ⟨(Nat.le_of_ble_eq_true rfl), (Nat.le_of_ble_eq_true rfl)⟩ (wc7 hk1) rfl rfl rfl (Nat.le_of_ble_eq_true rfl) rfl dX8_dropFrom_2 ?_
  refine j_if_ne (tgt := 11) (pc := 5) X dX8_dropFrom_5 rfl (fun c3 => ?_) (fun c3 => ?_)
  · have hf := kF c3 hf
    refine j_aload_n (pc := 11) X dX8_dropFrom_11 rfl ?_
    refine j_get (pc := 12) X iw_X8_dropFrom_X8 (wc8 kd_0) rfl 2 (Nat.le_of_ble_eq_true rfl) lk_X8_dropFrom_0 (v := .ref (ad 24)) rfl dX8_dropFrom_12 ?_
    refine j_aload_n (pc := 15) X dX8_dropFrom_15 rfl ?_
    refine j_get (pc := 16) X iw_X8_dropFrom_X8 (wc8 kd_0) rfl 1 (Nat.le_of_ble_eq_true rfl) lk_X8_dropFrom_1 (v := .ref (ad 4)) rfl dX8_dropFrom_16 ?_
    obtain ⟨C5, h4, hf⟩ := kB hf
    refine j_callV (pc := 19) X Y (c_X2_keep hI N C  h4) gX8_dropFrom_X2_keep rfl ⟨rfl, rfl⟩ rfl hd_X2_keep ⟨(Nat.le_of_ble_eq_true rfl), (Nat.le_of_ble_eq_true rfl)⟩ (wc2 kd_24) rfl rfl rfl (Nat.le_of_ble_eq_true rfl) rfl dX8_dropFrom_19 ?_
    refine j_aload_n (pc := 22) X dX8_dropFrom_22 rfl ?_
    refine j_iload_n (pc := 23) X dX8_dropFrom_23 rfl ?_
    obtain ⟨C7, h6, hf⟩ := kB hf
    refine j_callV (pc := 24) X Y (c_X7_remove hI N C5 k1 hk1 a2 h6) gX8_dropFrom_X7_remove rfl ⟨rfl, rfl⟩ rfl hd_X7_remove ⟨(Nat.le_of_ble_eq_true rfl), (Nat.le_of_ble_eq_true rfl)⟩ (wc7 hk1) rfl rfl rfl (Nat.le_of_ble_eq_true rfl) rfl dX8_dropFrom_24 ?_
    refine j_aload_n (pc := 27) X dX8_dropFrom_27 rfl ?_
    obtain ⟨C9, h8, hf⟩ := kB hf
    refine j_callV (pc := 28) X Y (c_X8_workOut hI N C7  h8) gX8_dropFrom_X8_workOut rfl ⟨rfl, rfl⟩ rfl hd_X8_workOut ⟨(Nat.le_of_ble_eq_true rfl), (Nat.le_of_ble_eq_true rfl)⟩ (wc8 kd_0) rfl rfl rfl (Nat.le_of_ble_eq_true rfl) rfl dX8_dropFrom_28 ?_
    refine j_aload_n (pc := 31) X dX8_dropFrom_31 rfl ?_
    obtain ⟨r11, h10, hf⟩ := kB hf
    refine j_callI (pc := 32) X (c_X7_size N C9 k1 hk1 h10) gX8_dropFrom_X7_size rfl ⟨rfl, rfl⟩ rfl hd_X7_size ⟨(Nat.le_of_ble_eq_true rfl), (Nat.le_of_ble_eq_true rfl)⟩ (wc7 hk1) rfl rfl rfl (Nat.le_of_ble_eq_true rfl) rfl dX8_dropFrom_32 ?_
    exact j_retW hR dX8_dropFrom_35 hf
  · have hf := kT c3 hf
    refine j_bipush (pc := 8) X dX8_dropFrom_8 kb_m11 ?_
    exact j_retW hR dX8_dropFrom_10 hf
theorem c_X8_dropFrom {l : Launch} {D : va_G} {cI cS : ClassId} {ad : Nat → Nat} (hI : kInj 132 ad) (N : Nat) (C : kS) (k1 : Nat) (hk1 : kd k1 = 7) (a2 : Int32) {r : Int32} {Cr : kS} (hf : f_X8_dropFrom N C k1 a2 = some (r, Cr)) : mW l yX8_dropFrom wsX8_dropFrom rm_X8_dropFrom D cI cS (WC cI cS ad) (kAd 132 ad) C [.ref (ad 0), .ref (ad k1), .int a2] r Cr :=
  mW.of (by decide) rfl rfl (Nat.le_of_ble_eq_true rfl) (WC_D hI) (fun g X Y hR => t_X8_dropFrom X hI Y hR N C k1 a2 hk1 hf)
abbrev rm_X8_dropEnding : Room := { frames := 6, cells := 0, slots := 0, locals := 147 }
theorem lk_X8_dropEnding_0 : Cond.fieldLink RX8 19 "BlackBars" "state" "LBlackBars$State;" ∈ wsX8_dropEnding := List.mem_of_getElem? (i := 1) rfl
theorem iw_X8_dropEnding_X8 : ∀ w ∈ wsX80, w ∈ wsX8_dropEnding := fun _ h => List.mem_cons_of_mem _ (List.mem_append_left _ (List.mem_append_left _ (List.mem_append_left _ (List.mem_append_left _ (List.mem_append_left _ (List.mem_append_left _ (List.mem_append_left _ (List.mem_append_right _ h))))))))
theorem iw_X8_dropEnding_X5 : ∀ w ∈ wsX50, w ∈ wsX8_dropEnding := fun _ h => List.mem_cons_of_mem _ (List.mem_append_left _ (List.mem_append_left _ (List.mem_append_left _ (List.mem_append_left _ (List.mem_append_left _ (List.mem_append_left _ (List.mem_append_right _ h)))))))
def f_X8_dropEnding (N : Nat) (C : kS) (a1 : Int32) : Option (Int32 × kS) := (f_X8_dropFrom N C 15 a1).bind (fun p2 => some (p2.1, p2.2))
theorem hd_X8_dropEnding : kHd yX8_dropEnding 1 := by decide +kernel
set_option maxHeartbeats 4000000 in
set_option maxRecDepth 100000 in
theorem t_X8_dropEnding {g : kG} {cI cS : ClassId} {ad : Nat → Nat} (X : Kx g cI cS cX8_dropEnding RX8 wsX8_dropEnding 2 rm_X8_dropEnding) {r : Int32} {Cr : kS} (hI : kInj 132 ad) (Y : Kw g (WC cI cS ad) (kAd 132 ad)) (hR : kRI g (WC cI cS ad) 2 cX8_dropEnding .int Cr r) (N : Nat) (C : kS) (a1 : Int32)  (hf : f_X8_dropEnding N C a1 = some (r, Cr)) : J g (WC cI cS ad) 2 C 0 [some (.ref (ad 0)), some (.int a1)] [] := by
  unfold f_X8_dropEnding at hf
  refine j_aload_n (pc := 0) X dX8_dropEnding_0 rfl ?_
  refine j_aload_n (pc := 1) X dX8_dropEnding_1 rfl ?_
  refine j_get (pc := 2) X iw_X8_dropEnding_X8 (wc8 kd_0) rfl 1 (Nat.le_of_ble_eq_true rfl) lk_X8_dropEnding_0 (v := .ref (ad 4)) rfl dX8_dropEnding_2 ?_
  refine j_getN (pc := 5) X iw_X8_dropEnding_X5 (wc5 kd_4) rfl 2 (Nat.le_of_ble_eq_true rfl) (List.mem_of_getElem? (i := 0) rfl) (v := .ref (ad 15)) rfl dX8_dropEnding_5 ?_
  refine j_iload_n (pc := 8) X dX8_dropEnding_8 rfl ?_
  obtain ⟨p2, h1, hf⟩ := kB hf
  refine j_callW (pc := 9) X Y (c_X8_dropFrom hI N C 15 (kd5_11 kd_4 : kd 15 = 7) a1 h1) gX8_dropEnding_X8_dropFrom rfl ⟨rfl, rfl⟩ rfl hd_X8_dropFrom ⟨(Nat.le_of_ble_eq_true rfl), (Nat.le_of_ble_eq_true rfl)⟩ (wc8 kd_0) rfl rfl rfl (Nat.le_of_ble_eq_true rfl) rfl dX8_dropEnding_9 ?_
  exact j_retW hR dX8_dropEnding_12 hf
theorem c_X8_dropEnding {l : Launch} {D : va_G} {cI cS : ClassId} {ad : Nat → Nat} (hI : kInj 132 ad) (N : Nat) (C : kS) (a1 : Int32) {r : Int32} {Cr : kS} (hf : f_X8_dropEnding N C a1 = some (r, Cr)) : mW l yX8_dropEnding wsX8_dropEnding rm_X8_dropEnding D cI cS (WC cI cS ad) (kAd 132 ad) C [.ref (ad 0), .int a1] r Cr :=
  mW.of (by decide) rfl rfl (Nat.le_of_ble_eq_true rfl) (WC_D hI) (fun g X Y hR => t_X8_dropEnding X hI Y hR N C a1  hf)
abbrev rm_X8_dropName : Room := { frames := 6, cells := 0, slots := 0, locals := 147 }
theorem lk_X8_dropName_0 : Cond.fieldLink RX8 19 "BlackBars" "state" "LBlackBars$State;" ∈ wsX8_dropName := List.mem_of_getElem? (i := 1) rfl
theorem iw_X8_dropName_X8 : ∀ w ∈ wsX80, w ∈ wsX8_dropName := fun _ h => List.mem_cons_of_mem _ (List.mem_append_left _ (List.mem_append_left _ (List.mem_append_left _ (List.mem_append_left _ (List.mem_append_left _ (List.mem_append_left _ (List.mem_append_left _ (List.mem_append_right _ h))))))))
theorem iw_X8_dropName_X5 : ∀ w ∈ wsX50, w ∈ wsX8_dropName := fun _ h => List.mem_cons_of_mem _ (List.mem_append_left _ (List.mem_append_left _ (List.mem_append_left _ (List.mem_append_left _ (List.mem_append_left _ (List.mem_append_left _ (List.mem_append_right _ h)))))))
def f_X8_dropName (N : Nat) (C : kS) (a1 : Int32) : Option (Int32 × kS) := (f_X8_dropFrom N C 10 a1).bind (fun p2 => some (p2.1, p2.2))
theorem hd_X8_dropName : kHd yX8_dropName 1 := by decide +kernel
set_option maxHeartbeats 4000000 in
set_option maxRecDepth 100000 in
theorem t_X8_dropName {g : kG} {cI cS : ClassId} {ad : Nat → Nat} (X : Kx g cI cS cX8_dropName RX8 wsX8_dropName 2 rm_X8_dropName) {r : Int32} {Cr : kS} (hI : kInj 132 ad) (Y : Kw g (WC cI cS ad) (kAd 132 ad)) (hR : kRI g (WC cI cS ad) 2 cX8_dropName .int Cr r) (N : Nat) (C : kS) (a1 : Int32)  (hf : f_X8_dropName N C a1 = some (r, Cr)) : J g (WC cI cS ad) 2 C 0 [some (.ref (ad 0)), some (.int a1)] [] := by
  unfold f_X8_dropName at hf
  refine j_aload_n (pc := 0) X dX8_dropName_0 rfl ?_
  refine j_aload_n (pc := 1) X dX8_dropName_1 rfl ?_
  refine j_get (pc := 2) X iw_X8_dropName_X8 (wc8 kd_0) rfl 1 (Nat.le_of_ble_eq_true rfl) lk_X8_dropName_0 (v := .ref (ad 4)) rfl dX8_dropName_2 ?_
  refine j_getN (pc := 5) X iw_X8_dropName_X5 (wc5 kd_4) rfl 1 (Nat.le_of_ble_eq_true rfl) (List.mem_of_getElem? (i := 4) rfl) (v := .ref (ad 10)) rfl dX8_dropName_5 ?_
  refine j_iload_n (pc := 8) X dX8_dropName_8 rfl ?_
  obtain ⟨p2, h1, hf⟩ := kB hf
  refine j_callW (pc := 9) X Y (c_X8_dropFrom hI N C 10 (kd5_6 kd_4 : kd 10 = 7) a1 h1) gX8_dropName_X8_dropFrom rfl ⟨rfl, rfl⟩ rfl hd_X8_dropFrom ⟨(Nat.le_of_ble_eq_true rfl), (Nat.le_of_ble_eq_true rfl)⟩ (wc8 kd_0) rfl rfl rfl (Nat.le_of_ble_eq_true rfl) rfl dX8_dropName_9 ?_
  exact j_retW hR dX8_dropName_12 hf
theorem c_X8_dropName {l : Launch} {D : va_G} {cI cS : ClassId} {ad : Nat → Nat} (hI : kInj 132 ad) (N : Nat) (C : kS) (a1 : Int32) {r : Int32} {Cr : kS} (hf : f_X8_dropName N C a1 = some (r, Cr)) : mW l yX8_dropName wsX8_dropName rm_X8_dropName D cI cS (WC cI cS ad) (kAd 132 ad) C [.ref (ad 0), .int a1] r Cr :=
  mW.of (by decide) rfl rfl (Nat.le_of_ble_eq_true rfl) (WC_D hI) (fun g X Y hR => t_X8_dropName X hI Y hR N C a1  hf)
abbrev rm_X8_ending : Room := { frames := 6, cells := 0, slots := 0, locals := 146 }
theorem lk_X8_ending_0 : Cond.fieldLink RX8 19 "BlackBars" "state" "LBlackBars$State;" ∈ wsX8_ending := List.mem_of_getElem? (i := 1) rfl
theorem iw_X8_ending_X8 : ∀ w ∈ wsX80, w ∈ wsX8_ending := fun _ h => List.mem_cons_of_mem _ (List.mem_append_left _ (List.mem_append_left _ (List.mem_append_left _ (List.mem_append_left _ (List.mem_append_left _ (List.mem_append_left _ (List.mem_append_left _ (List.mem_append_left _ (List.mem_append_right _ h)))))))))
theorem iw_X8_ending_X5 : ∀ w ∈ wsX50, w ∈ wsX8_ending := fun _ h => List.mem_cons_of_mem _ (List.mem_append_left _ (List.mem_append_left _ (List.mem_append_left _ (List.mem_append_left _ (List.mem_append_left _ (List.mem_append_left _ (List.mem_append_left _ (List.mem_append_right _ h))))))))
def f_X8_ending (N : Nat) (C : kS) : Option (Int32 × kS) := (f_X8_addTextTo N C 15).bind (fun p2 => some (p2.1, p2.2))
theorem hd_X8_ending : kHd yX8_ending 0 := by decide +kernel
set_option maxHeartbeats 4000000 in
set_option maxRecDepth 100000 in
theorem t_X8_ending {g : kG} {cI cS : ClassId} {ad : Nat → Nat} (X : Kx g cI cS cX8_ending RX8 wsX8_ending 1 rm_X8_ending) {r : Int32} {Cr : kS} (hI : kInj 132 ad) (Y : Kw g (WC cI cS ad) (kAd 132 ad)) (hR : kRI g (WC cI cS ad) 1 cX8_ending .int Cr r) (N : Nat) (C : kS)   (hf : f_X8_ending N C = some (r, Cr)) : J g (WC cI cS ad) 1 C 0 [some (.ref (ad 0))] [] := by
  unfold f_X8_ending at hf
  refine j_aload_n (pc := 0) X dX8_ending_0 rfl ?_
  refine j_aload_n (pc := 1) X dX8_ending_1 rfl ?_
  refine j_get (pc := 2) X iw_X8_ending_X8 (wc8 kd_0) rfl 1 (Nat.le_of_ble_eq_true rfl) lk_X8_ending_0 (v := .ref (ad 4)) rfl dX8_ending_2 ?_
  refine j_getN (pc := 5) X iw_X8_ending_X5 (wc5 kd_4) rfl 2 (Nat.le_of_ble_eq_true rfl) (List.mem_of_getElem? (i := 0) rfl) (v := .ref (ad 15)) rfl dX8_ending_5 ?_
  obtain ⟨p2, h1, hf⟩ := kB hf
  refine j_callW (pc := 8) X Y (c_X8_addTextTo hI N C 15 (kd5_11 kd_4 : kd 15 = 7) h1) gX8_ending_X8_addTextTo rfl ⟨rfl, rfl⟩ rfl hd_X8_addTextTo ⟨(Nat.le_of_ble_eq_true rfl), (Nat.le_of_ble_eq_true rfl)⟩ (wc8 kd_0) rfl rfl rfl (Nat.le_of_ble_eq_true rfl) rfl dX8_ending_8 ?_
  exact j_retW hR dX8_ending_11 hf
theorem c_X8_ending {l : Launch} {D : va_G} {cI cS : ClassId} {ad : Nat → Nat} (hI : kInj 132 ad) (N : Nat) (C : kS)  {r : Int32} {Cr : kS} (hf : f_X8_ending N C = some (r, Cr)) : mW l yX8_ending wsX8_ending rm_X8_ending D cI cS (WC cI cS ad) (kAd 132 ad) C [.ref (ad 0)] r Cr :=
  mW.of (by decide) rfl rfl (Nat.le_of_ble_eq_true rfl) (WC_D hI) (fun g X Y hR => t_X8_ending X hI Y hR N C   hf)
abbrev rm_X8_fault : Room := { frames := 4, cells := 0, slots := 0, locals := 88 }
theorem lk_X8_fault_0 : Cond.fieldLink RX8 12 "BlackBars" "text" "LBlackBars$Text;" ∈ wsX8_fault := List.mem_of_getElem? (i := 1) rfl
theorem iw_X8_fault_X8 : ∀ w ∈ wsX80, w ∈ wsX8_fault := fun _ h => List.mem_cons_of_mem _ (List.mem_append_left _ (List.mem_append_left _ (List.mem_append_right _ h)))
def f_X8_fault (N : Nat) (C : kS) (a1 : Int32) : Option (Int32) := if a1 < 0 then some (-11) else if a1 ≤ 1 then (f_X6_faultIndex N C).bind (fun r4 => if 0 ≤ r4 then jn (fun (t6 : Int32) => some t6) (fun j43_6 => if a1 = 0 then j43_6 r4 else (f_X6_faultReason N C r4).bind (fun r10 => j43_6 r10)) else some (-14)) else some (-11)
theorem hd_X8_fault : kHd yX8_fault 1 := by decide +kernel
set_option maxHeartbeats 4000000 in
set_option maxRecDepth 100000 in
theorem t_X8_fault {g : kG} {cI cS : ClassId} {ad : Nat → Nat} {C : kS} (X : Kx g cI cS cX8_fault RX8 wsX8_fault 3 rm_X8_fault) {r : Int32} (hR : kRI g (WC cI cS ad) 3 cX8_fault .int C r) (N : Nat) (a1 : Int32)  (hf : f_X8_fault N C a1 = some r) : J g (WC cI cS ad) 3 C 0 [some (.ref (ad 0)), some (.int a1), none] [] := by
  unfold f_X8_fault at hf
  refine j_iload_n (pc := 0) X dX8_fault_0 rfl ?_
  refine j_if_lt (tgt := 9) (pc := 1) X dX8_fault_1 rfl (fun c1 => ?_) (fun c1 => ?_)
  · have hf := kT c1 hf
    refine j_bipush (pc := 9) X dX8_fault_9 kb_m11 ?_
    exact j_retI hR dX8_fault_11 hf
  · have hf := kF c1 hf
    refine j_iload_n (pc := 4) X dX8_fault_4 rfl ?_
    refine j_iconst (pc := 5) X dX8_fault_5 kc_1 ?_
    refine j_icmp_le (tgt := 12) (pc := 6) X dX8_fault_6 rfl (fun c2 => ?_) (fun c2 => ?_)
    · have hf := kT c2 hf
      refine j_aload_n (pc := 12) X dX8_fault_12 rfl ?_
      refine j_get (pc := 13) X iw_X8_fault_X8 (wc8 kd_0) rfl 0 (Nat.le_of_ble_eq_true rfl) lk_X8_fault_0 (v := .ref (ad 1)) rfl dX8_fault_13 ?_
      obtain ⟨r4, h3, hf⟩ := kB hf
      refine j_callI (pc := 16) X (c_X6_faultIndex N C  h3) gX8_fault_X6_faultIndex rfl ⟨rfl, rfl⟩ rfl hd_X6_faultIndex ⟨(Nat.le_of_ble_eq_true rfl), (Nat.le_of_ble_eq_true rfl)⟩ (wc6 kd_1) rfl rfl rfl (Nat.le_of_ble_eq_true rfl) rfl dX8_fault_16 ?_
      refine j_istore_n (pc := 19) X dX8_fault_19 (Nat.le_of_ble_eq_true rfl) (lv' := [some (.ref (ad 0)), some (.int a1), some (.int r4)]) rfl ?_
      refine j_iload_n (pc := 20) X dX8_fault_20 rfl ?_
      refine j_if_ge (tgt := 27) (pc := 21) X dX8_fault_21 rfl (fun c5 => ?_) (fun c5 => ?_)
      · have hf := kT c5 hf
        refine j_iload_n (pc := 27) X dX8_fault_27 rfl ?_
        obtain ⟨j43_6, ej43_6, hf⟩ := jn_s hf
        have hj43_6 : ∀ (t6 : Int32), j43_6 t6 = some r → J g (WC cI cS ad) 3 C 43 [some (.ref (ad 0)), some (.int a1), some (.int r4)] [.int t6] := by
          intro t6 hf
          have hf := jE1 ej43_6 hf
          exact j_retI hR dX8_fault_43 hf
        refine j_if_ne (tgt := 35) (pc := 28) X dX8_fault_28 rfl (fun c8 => ?_) (fun c8 => ?_)
        · have hf := kF c8 hf
          refine j_aload_n (pc := 35) X dX8_fault_35 rfl ?_
          refine j_get (pc := 36) X iw_X8_fault_X8 (wc8 kd_0) rfl 0 (Nat.le_of_ble_eq_true rfl) lk_X8_fault_0 (v := .ref (ad 1)) rfl dX8_fault_36 ?_
          refine j_iload_n (pc := 39) X dX8_fault_39 rfl ?_
          obtain ⟨r10, h9, hf⟩ := kB hf
          refine j_callI (pc := 40) X (c_X6_faultReason N C r4 h9) gX8_fault_X6_faultReason rfl ⟨rfl, rfl⟩ rfl hd_X6_faultReason ⟨(Nat.le_of_ble_eq_true rfl), (Nat.le_of_ble_eq_true rfl)⟩ (wc6 kd_1) rfl rfl rfl (Nat.le_of_ble_eq_true rfl) rfl dX8_fault_40 ?_
          exact hj43_6 _ hf
        · have hf := kT c8 hf
          refine j_iload_n (pc := 31) X dX8_fault_31 rfl ?_
          refine j_goto (tgt := 43) (pc := 32) X dX8_fault_32 rfl ?_
          exact hj43_6 _ hf
      · have hf := kF c5 hf
        refine j_bipush (pc := 24) X dX8_fault_24 kb_m14 ?_
        exact j_retI hR dX8_fault_26 hf
    · have hf := kF c2 hf
      refine j_bipush (pc := 9) X dX8_fault_9 kb_m11 ?_
      exact j_retI hR dX8_fault_11 hf
theorem c_X8_fault {l : Launch} {D : va_G} {cI cS : ClassId} {ad : Nat → Nat} (N : Nat) (C : kS) (a1 : Int32) {r : Int32} (hf : f_X8_fault N C a1 = some r) : mI l yX8_fault wsX8_fault rm_X8_fault D cI cS (WC cI cS ad) C [.ref (ad 0), .int a1] r :=
  mI.of (by decide) rfl rfl (Nat.le_of_ble_eq_true rfl) (fun g X hR => t_X8_fault X  hR N a1  hf)
abbrev rm_X8_form : Room := { frames := 3, cells := 0, slots := 0, locals := 65 }
theorem lk_X8_form_0 : Cond.fieldLink RX8 19 "BlackBars" "state" "LBlackBars$State;" ∈ wsX8_form := List.mem_of_getElem? (i := 1) rfl
theorem iw_X8_form_X8 : ∀ w ∈ wsX80, w ∈ wsX8_form := fun _ h => List.mem_cons_of_mem _ (List.mem_append_left _ (List.mem_append_left _ (List.mem_append_left _ (List.mem_append_left _ (List.mem_append_left _ (List.mem_append_left _ (List.mem_append_right _ h)))))))
theorem iw_X8_form_X5 : ∀ w ∈ wsX50, w ∈ wsX8_form := fun _ h => List.mem_cons_of_mem _ (List.mem_append_left _ (List.mem_append_left _ (List.mem_append_left _ (List.mem_append_left _ (List.mem_append_left _ (List.mem_append_right _ h))))))
theorem lk_X8_form_1 : Cond.fieldLink RX8 33 "BlackBars" "forms" "LBlackBars$Forms;" ∈ wsX8_form := List.mem_of_getElem? (i := 2) rfl
theorem lk_X8_form_2 : Cond.fieldLink RX8 42 "BlackBars" "bars" "LBlackBars$Bars;" ∈ wsX8_form := List.mem_of_getElem? (i := 3) rfl
theorem lk_X8_form_3 : Cond.fieldLink RX8 54 "BlackBars" "sheet" "LBlackBars$Sheet;" ∈ wsX8_form := List.mem_of_getElem? (i := 4) rfl
def f_X8_form (N : Nat) (C : kS) (a1 : Int32) (a2 : Int32) (a3 : Int32) : Option (Int32) := (f_X7_has N C 10 a1).bind (fun r2 => if r2 = 0 then some (-11) else jn ((f_X1_numberOf N C a1 a2).bind (fun r6 => if a3 = 0 then (f_X5_lengthOfForm N C a1 a2).bind (fun r9 => some r9) else if a3 = 1 then (f_X1_widthOf N C r6).bind (fun r12 => some r12) else if a3 = 2 then (f_X0_widthOf N C 113 r6).bind (fun r15 => some r15) else if a3 = 3 then (f_X4_wordsHiddenAs N C r6).bind (fun r18 => some r18) else some (-11))) (fun j39_3 => if a2 = (-1) then j39_3 else (f_X7_has N C 15 a2).bind (fun r21 => if r21 = 0 then some (-11) else j39_3)))
theorem hd_X8_form : kHd yX8_form 3 := by decide +kernel
set_option maxHeartbeats 4000000 in
set_option maxRecDepth 100000 in
theorem t_X8_form {g : kG} {cI cS : ClassId} {ad : Nat → Nat} {C : kS} (X : Kx g cI cS cX8_form RX8 wsX8_form 5 rm_X8_form) {r : Int32} (hR : kRI g (WC cI cS ad) 5 cX8_form .int C r) (N : Nat) (a1 : Int32) (a2 : Int32) (a3 : Int32)  (hf : f_X8_form N C a1 a2 a3 = some r) : J g (WC cI cS ad) 5 C 0 [some (.ref (ad 0)), some (.int a1), some (.int a2), some (.int a3), none] [] := by
  unfold f_X8_form at hf
  refine j_aload_n (pc := 0) X dX8_form_0 rfl ?_
  refine j_get (pc := 1) X iw_X8_form_X8 (wc8 kd_0) rfl 1 (Nat.le_of_ble_eq_true rfl) lk_X8_form_0 (v := .ref (ad 4)) rfl dX8_form_1 ?_
  refine j_getN (pc := 4) X iw_X8_form_X5 (wc5 kd_4) rfl 1 (Nat.le_of_ble_eq_true rfl) (List.mem_of_getElem? (i := 4) rfl) (v := .ref (ad 10)) rfl dX8_form_4 ?_
  refine j_iload_n (pc := 7) X dX8_form_7 rfl ?_
  obtain ⟨r2, h1, hf⟩ := kB hf
  refine j_callI (pc := 8) X (c_X7_has N C 10 (kd5_6 kd_4 : kd 10 = 7) a1 h1) gX8_form_X7_has rfl ⟨rfl, rfl⟩ rfl hd_X7_has ⟨(Nat.le_of_ble_eq_true rfl), (Nat.le_of_ble_eq_true rfl)⟩ (wc7 (kd5_6 kd_4 : kd 10 = 7)) rfl rfl rfl (Nat.le_of_ble_eq_true rfl) rfl dX8_form_8 ?_
  refine j_if_ne (tgt := 17) (pc := 11) X dX8_form_11 rfl (fun c3 => ?_) (fun c3 => ?_)
  · have hf := kF c3 hf
    refine j_iload_n (pc := 17) X dX8_form_17 rfl ?_
    refine j_iconst (pc := 18) X dX8_form_18 kc_m1 ?_
    obtain ⟨j39_3, ej39_3, hf⟩ := jn_s hf
    have hj39_3 : ∀ (_ : Unit), j39_3 = some r → J g (WC cI cS ad) 5 C 39 [some (.ref (ad 0)), some (.int a1), some (.int a2), some (.int a3), none] [] := by
      intro _ hf
      have hf := jE0 ej39_3 hf
      refine j_aload_n (pc := 39) X dX8_form_39 rfl ?_
      refine j_get (pc := 40) X iw_X8_form_X8 (wc8 kd_0) rfl 3 (Nat.le_of_ble_eq_true rfl) lk_X8_form_1 (v := .ref (ad 106)) rfl dX8_form_40 ?_
      refine j_iload_n (pc := 43) X dX8_form_43 rfl ?_
      refine j_iload_n (pc := 44) X dX8_form_44 rfl ?_
      obtain ⟨r6, h5, hf⟩ := kB hf
      refine j_callI (pc := 45) X (c_X1_numberOf N C a1 a2 h5) gX8_form_X1_numberOf rfl ⟨rfl, rfl⟩ rfl hd_X1_numberOf ⟨(Nat.le_of_ble_eq_true rfl), (Nat.le_of_ble_eq_true rfl)⟩ (wc1 kd_106) rfl rfl rfl (Nat.le_of_ble_eq_true rfl) rfl dX8_form_45 ?_
      refine j_istore (pc := 48) X dX8_form_48 (Nat.le_of_ble_eq_true rfl) (lv' := [some (.ref (ad 0)), some (.int a1), some (.int a2), some (.int a3), some (.int r6)]) rfl ?_
      refine j_iload_n (pc := 50) X dX8_form_50 rfl ?_
      rcases Decidable.em (a3 = 0) with c7 | c7
      · have hf := kT c7 hf
        refine j_tabIn (v := 0) (off := 29) (tgt := 80) (pc := 51) X dX8_form_51 c7 (by decide) (by decide) (by decide) rfl ?_
        refine j_aload_n (pc := 80) X dX8_form_80 rfl ?_
        refine j_get (pc := 81) X iw_X8_form_X8 (wc8 kd_0) rfl 1 (Nat.le_of_ble_eq_true rfl) lk_X8_form_0 (v := .ref (ad 4)) rfl dX8_form_81 ?_
        refine j_iload_n (pc := 84) X dX8_form_84 rfl ?_
        refine j_iload_n (pc := 85) X dX8_form_85 rfl ?_
        obtain ⟨r9, h8, hf⟩ := kB hf
        refine j_callI (pc := 86) X (c_X5_lengthOfForm N C a1 a2 h8) gX8_form_X5_lengthOfForm rfl ⟨rfl, rfl⟩ rfl hd_X5_lengthOfForm ⟨(Nat.le_of_ble_eq_true rfl), (Nat.le_of_ble_eq_true rfl)⟩ (wc5 kd_4) rfl rfl rfl (Nat.le_of_ble_eq_true rfl) rfl dX8_form_86 ?_
        exact j_retI hR dX8_form_89 hf
      · have hf := kF c7 hf
        rcases Decidable.em (a3 = 1) with c10 | c10
        · have hf := kT c10 hf
          refine j_tabIn (v := 1) (off := 39) (tgt := 90) (pc := 51) X dX8_form_51 c10 (by decide) (by decide) (by decide) rfl ?_
          refine j_aload_n (pc := 90) X dX8_form_90 rfl ?_
          refine j_get (pc := 91) X iw_X8_form_X8 (wc8 kd_0) rfl 3 (Nat.le_of_ble_eq_true rfl) lk_X8_form_1 (v := .ref (ad 106)) rfl dX8_form_91 ?_
          refine j_iload (pc := 94) X dX8_form_94 rfl ?_
          obtain ⟨r12, h11, hf⟩ := kB hf
          refine j_callI (pc := 96) X (c_X1_widthOf N C r6 h11) gX8_form_X1_widthOf rfl ⟨rfl, rfl⟩ rfl hd_X1_widthOf ⟨(Nat.le_of_ble_eq_true rfl), (Nat.le_of_ble_eq_true rfl)⟩ (wc1 kd_106) rfl rfl rfl (Nat.le_of_ble_eq_true rfl) rfl dX8_form_96 ?_
          exact j_retI hR dX8_form_99 hf
        · have hf := kF c10 hf
          rcases Decidable.em (a3 = 2) with c13 | c13
          · have hf := kT c13 hf
            refine j_tabIn (v := 2) (off := 49) (tgt := 100) (pc := 51) X dX8_form_51 c13 (by decide) (by decide) (by decide) rfl ?_
            refine j_aload_n (pc := 100) X dX8_form_100 rfl ?_
            refine j_get (pc := 101) X iw_X8_form_X8 (wc8 kd_0) rfl 4 (Nat.le_of_ble_eq_true rfl) lk_X8_form_2 (v := .ref (ad 113)) rfl dX8_form_101 ?_
            refine j_iload (pc := 104) X dX8_form_104 rfl ?_
            obtain ⟨r15, h14, hf⟩ := kB hf
            refine j_callI (pc := 106) X (c_X0_widthOf N C 113 kd_113 r6 h14) gX8_form_X0_widthOf rfl ⟨rfl, rfl⟩ rfl hd_X0_widthOf ⟨(Nat.le_of_ble_eq_true rfl), (Nat.le_of_ble_eq_true rfl)⟩ (wc0 kd_113) rfl rfl rfl (Nat.le_of_ble_eq_true rfl) rfl dX8_form_106 ?_
            exact j_retI hR dX8_form_109 hf
          · have hf := kF c13 hf
            rcases Decidable.em (a3 = 3) with c16 | c16
            · have hf := kT c16 hf
              refine j_tabIn (v := 3) (off := 59) (tgt := 110) (pc := 51) X dX8_form_51 c16 (by decide) (by decide) (by decide) rfl ?_
              refine j_aload_n (pc := 110) X dX8_form_110 rfl ?_
              refine j_get (pc := 111) X iw_X8_form_X8 (wc8 kd_0) rfl 6 (Nat.le_of_ble_eq_true rfl) lk_X8_form_3 (v := .ref (ad 119)) rfl dX8_form_111 ?_
              refine j_iload (pc := 114) X dX8_form_114 rfl ?_
              obtain ⟨r18, h17, hf⟩ := kB hf
              refine j_callI (pc := 116) X (c_X4_wordsHiddenAs N C r6 h17) gX8_form_X4_wordsHiddenAs rfl ⟨rfl, rfl⟩ rfl hd_X4_wordsHiddenAs ⟨(Nat.le_of_ble_eq_true rfl), (Nat.le_of_ble_eq_true rfl)⟩ (wc4 kd_119) rfl rfl rfl (Nat.le_of_ble_eq_true rfl) rfl dX8_form_116 ?_
              exact j_retI hR dX8_form_119 hf
            · have hf := kF c16 hf
              refine j_tabOut (tgt := 120) (pc := 51) X dX8_form_51 (by have gc7 := lv_neT (a := 0) c7 (by decide); have gc10 := lv_neT (a := 1) c10 (by decide); have gc13 := lv_neT (a := 2) c13 (by decide); have gc16 := lv_neT (a := 3) c16 (by decide); omega) rfl ?_
              refine j_bipush (pc := 120) X dX8_form_120 kb_m11 ?_
              exact j_retI hR dX8_form_122 hf
    refine j_icmp_eq (tgt := 39) (pc := 19) X dX8_form_19 rfl (fun c19 => ?_) (fun c19 => ?_)
    · have hf := kT c19 hf
      exact hj39_3 () hf
    · have hf := kF c19 hf
      refine j_aload_n (pc := 22) X dX8_form_22 rfl ?_
      refine j_get (pc := 23) X iw_X8_form_X8 (wc8 kd_0) rfl 1 (Nat.le_of_ble_eq_true rfl) lk_X8_form_0 (v := .ref (ad 4)) rfl dX8_form_23 ?_
      refine j_getN (pc := 26) X iw_X8_form_X5 (wc5 kd_4) rfl 2 (Nat.le_of_ble_eq_true rfl) (List.mem_of_getElem? (i := 0) rfl) (v := .ref (ad 15)) rfl dX8_form_26 ?_
      refine j_iload_n (pc := 29) X dX8_form_29 rfl ?_
      obtain ⟨r21, h20, hf⟩ := kB hf
      refine j_callI (pc := 30) X (c_X7_has N C 15 (kd5_11 kd_4 : kd 15 = 7) a2 h20) gX8_form_X7_has rfl ⟨rfl, rfl⟩ rfl hd_X7_has ⟨(Nat.le_of_ble_eq_true rfl), (Nat.le_of_ble_eq_true rfl)⟩ (wc7 (kd5_11 kd_4 : kd 15 = 7)) rfl rfl rfl (Nat.le_of_ble_eq_true rfl) rfl dX8_form_30 ?_
      refine j_if_ne (tgt := 39) (pc := 33) X dX8_form_33 rfl (fun c22 => ?_) (fun c22 => ?_)
      · have hf := kF c22 hf
        exact hj39_3 () hf
      · have hf := kT c22 hf
        refine j_bipush (pc := 36) X dX8_form_36 kb_m11 ?_
        exact j_retI hR dX8_form_38 hf
  · have hf := kT c3 hf
    refine j_bipush (pc := 14) X dX8_form_14 kb_m11 ?_
    exact j_retI hR dX8_form_16 hf
theorem c_X8_form {l : Launch} {D : va_G} {cI cS : ClassId} {ad : Nat → Nat} (N : Nat) (C : kS) (a1 : Int32) (a2 : Int32) (a3 : Int32) {r : Int32} (hf : f_X8_form N C a1 a2 a3 = some r) : mI l yX8_form wsX8_form rm_X8_form D cI cS (WC cI cS ad) C [.ref (ad 0), .int a1, .int a2, .int a3] r :=
  mI.of (by decide) rfl rfl (Nat.le_of_ble_eq_true rfl) (fun g X hR => t_X8_form X  hR N a1 a2 a3  hf)
abbrev rm_X8_guessesAheadOf : Room := { frames := 3, cells := 0, slots := 0, locals := 67 }
theorem lk_X8_guessesAheadOf_0 : Cond.fieldLink RX8 19 "BlackBars" "state" "LBlackBars$State;" ∈ wsX8_guessesAheadOf := List.mem_of_getElem? (i := 1) rfl
theorem iw_X8_guessesAheadOf_X8 : ∀ w ∈ wsX80, w ∈ wsX8_guessesAheadOf := fun _ h => List.mem_cons_of_mem _ (List.mem_append_left _ (List.mem_append_left _ (List.mem_append_left _ (List.mem_append_left _ (List.mem_append_left _ (List.mem_append_right _ h))))))
theorem iw_X8_guessesAheadOf_X5 : ∀ w ∈ wsX50, w ∈ wsX8_guessesAheadOf := fun _ h => List.mem_cons_of_mem _ (List.mem_append_left _ (List.mem_append_left _ (List.mem_append_left _ (List.mem_append_left _ (List.mem_append_right _ h)))))
theorem lk_X8_guessesAheadOf_1 : Cond.fieldLink RX8 42 "BlackBars" "bars" "LBlackBars$Bars;" ∈ wsX8_guessesAheadOf := List.mem_of_getElem? (i := 2) rfl
def lp_X8_guessesAheadOf_6 (N : Nat) (C : kS) (a1 : Int32) (a2 : Int32) (a3 : Int32) (k78_1 : Int32 → Option (Int32)) : Nat → Int32 → Int32 → Option (Int32)
  | 0, _, _ => none
  | n + 1, x3, x4 => (f_X7_size N C 10).bind (fun r6 => if r6 ≤ x4 then k78_1 x3 else (f_X0_leastGap N C 113 x4 a3).bind (fun r9 => jn (fun (t10 : Int32) => jn (fun (x12 : Int32) => lp_X8_guessesAheadOf_6 N C a1 a2 a3 k78_1 n x12 (x4 + 1)) (fun j72_12 => if r9 = (-1) then j72_12 x3 else if t10 = 0 then j72_12 x3 else j72_12 (x3 + 1))) (fun j56_10 => jn (j56_10 1) (fun j51_15 => if r9 < a2 then j51_15 else jn (j56_10 0) (fun j55_17 => if r9 = a2 then if a1 ≤ x4 then j55_17 else j51_15 else j55_17)))))
def f_X8_guessesAheadOf (N : Nat) (C : kS) (a1 : Int32) (a2 : Int32) (a3 : Int32) : Option (Int32) := jn (fun (x1 : Int32) => some x1) (fun k78_1 => lp_X8_guessesAheadOf_6 N C a1 a2 a3 k78_1 N 0 0)
theorem hd_X8_guessesAheadOf : kHd yX8_guessesAheadOf 3 := by decide +kernel
set_option maxHeartbeats 4000000 in
set_option maxRecDepth 100000 in
theorem lt_X8_guessesAheadOf_6 {g : kG} {cI cS : ClassId} {ad : Nat → Nat} {C : kS} (X : Kx g cI cS cX8_guessesAheadOf RX8 wsX8_guessesAheadOf 8 rm_X8_guessesAheadOf) {r : Int32} (hR : kRI g (WC cI cS ad) 8 cX8_guessesAheadOf .int C r) (N : Nat) (a1 : Int32) (a2 : Int32) (a3 : Int32)  (k78_1 : Int32 → Option (Int32)) (hk78_1 : ∀ (x1 : Int32), k78_1 x1 = some r → J g (WC cI cS ad) 8 C 78 [some (.ref (ad 0)), some (.int a1), some (.int a2), some (.int a3), some (.int x1), none, none, none] []) : ∀ (n : Nat) (x3 : Int32) (x4 : Int32), lp_X8_guessesAheadOf_6 N C a1 a2 a3 k78_1 n x3 x4 = some r → J g (WC cI cS ad) 8 C 6 [some (.ref (ad 0)), some (.int a1), some (.int a2), some (.int a3), some (.int x3), some (.int x4), none, none] [] := by
  intro n
  induction n with
  | zero =>
    intro x3 x4 hf
    rw [lp_X8_guessesAheadOf_6] at hf
    cases hf
  | succ n ih =>
    intro x3 x4 hf
    rw [lp_X8_guessesAheadOf_6] at hf
    refine j_iload (pc := 6) X dX8_guessesAheadOf_6 rfl ?_
    refine j_aload_n (pc := 8) X dX8_guessesAheadOf_8 rfl ?_
    refine j_get (pc := 9) X iw_X8_guessesAheadOf_X8 (wc8 kd_0) rfl 1 (Nat.le_of_ble_eq_true rfl) lk_X8_guessesAheadOf_0 (v := .ref (ad 4)) rfl dX8_guessesAheadOf_9 ?_
    refine j_getN (pc := 12) X iw_X8_guessesAheadOf_X5 (wc5 kd_4) rfl 1 (Nat.le_of_ble_eq_true rfl) (List.mem_of_getElem? (i := 4) rfl) (v := .ref (ad 10)) rfl dX8_guessesAheadOf_12 ?_
    obtain ⟨r6, h5, hf⟩ := kB hf
    refine j_callI (pc := 15) X (c_X7_size N C 10 (kd5_6 kd_4 : kd 10 = 7) h5) gX8_guessesAheadOf_X7_size rfl ⟨rfl, rfl⟩ rfl hd_X7_size ⟨(Nat.le_of_ble_eq_true rfl), (Nat.le_of_ble_eq_true rfl)⟩ (wc7 (kd5_6 kd_4 : kd 10 = 7)) rfl rfl rfl (Nat.le_of_ble_eq_true rfl) rfl dX8_guessesAheadOf_15 ?_
    refine j_icmp_ge (tgt := 78) (pc := 18) X dX8_guessesAheadOf_18 rfl (fun c7 => ?_) (fun c7 => ?_)
    · have hf := kT c7 hf
      refine j_weak (lv' := [some (.ref (ad 0)), some (.int a1), some (.int a2), some (.int a3), some (.int x3), none, none, none]) (And.intro rfl (And.intro rfl (And.intro rfl (And.intro rfl (And.intro rfl trivial))))) ?_
      exact hk78_1 _ hf
    · have hf := kF c7 hf
      refine j_aload_n (pc := 21) X dX8_guessesAheadOf_21 rfl ?_
      refine j_get (pc := 22) X iw_X8_guessesAheadOf_X8 (wc8 kd_0) rfl 4 (Nat.le_of_ble_eq_true rfl) lk_X8_guessesAheadOf_1 (v := .ref (ad 113)) rfl dX8_guessesAheadOf_22 ?_
      refine j_iload (pc := 25) X dX8_guessesAheadOf_25 rfl ?_
      refine j_iload_n (pc := 27) X dX8_guessesAheadOf_27 rfl ?_
      obtain ⟨r9, h8, hf⟩ := kB hf
      refine j_callI (pc := 28) X (c_X0_leastGap N C 113 kd_113 x4 a3 h8) gX8_guessesAheadOf_X0_leastGap rfl ⟨rfl, rfl⟩ rfl hd_X0_leastGap ⟨(Nat.le_of_ble_eq_true rfl), (Nat.le_of_ble_eq_true rfl)⟩ (wc0 kd_113) rfl rfl rfl (Nat.le_of_ble_eq_true rfl) rfl dX8_guessesAheadOf_28 ?_
      refine j_istore (pc := 31) X dX8_guessesAheadOf_31 (Nat.le_of_ble_eq_true rfl) (lv' := [some (.ref (ad 0)), some (.int a1), some (.int a2), some (.int a3), some (.int x3), some (.int x4), some (.int r9), none]) rfl ?_
      refine j_iload (pc := 33) X dX8_guessesAheadOf_33 rfl ?_
      refine j_iload_n (pc := 35) X dX8_guessesAheadOf_35 rfl ?_
      obtain ⟨j56_10, ej56_10, hf⟩ := jn_s hf
      have hj56_10 : ∀ (t10 : Int32), j56_10 t10 = some r → J g (WC cI cS ad) 8 C 56 [some (.ref (ad 0)), some (.int a1), some (.int a2), some (.int a3), some (.int x3), some (.int x4), some (.int r9), none] [.int t10] := by
        intro t10 hf
        have hf := jE1 ej56_10 hf
        refine j_istore (pc := 56) X dX8_guessesAheadOf_56 (Nat.le_of_ble_eq_true rfl) (lv' := [some (.ref (ad 0)), some (.int a1), some (.int a2), some (.int a3), some (.int x3), some (.int x4), some (.int r9), some (.int t10)]) rfl ?_
        refine j_iload (pc := 58) X dX8_guessesAheadOf_58 rfl ?_
        refine j_iconst (pc := 60) X dX8_guessesAheadOf_60 kc_m1 ?_
        obtain ⟨j72_12, ej72_12, hf⟩ := jn_s hf
        have hj72_12 : ∀ (x12 : Int32), j72_12 x12 = some r → J g (WC cI cS ad) 8 C 72 [some (.ref (ad 0)), some (.int a1), some (.int a2), some (.int a3), some (.int x12), some (.int x4), some (.int r9), some (.int t10)] [] := by
          intro x12 hf
          have hf := jE1 ej72_12 hf
          refine j_iinc (pc := 72) X dX8_guessesAheadOf_72 rfl (v := x4 + 1) (by rw [kc_1]) (Nat.le_of_ble_eq_true rfl) (lv' := [some (.ref (ad 0)), some (.int a1), some (.int a2), some (.int a3), some (.int x12), some (.int (x4 + 1)), some (.int r9), some (.int t10)]) rfl ?_
          refine j_goto (tgt := 6) (pc := 75) X dX8_guessesAheadOf_75 rfl ?_
          refine j_weak (lv' := [some (.ref (ad 0)), some (.int a1), some (.int a2), some (.int a3), some (.int x12), some (.int (x4 + 1)), none, none]) (And.intro rfl (And.intro rfl (And.intro rfl (And.intro rfl (And.intro rfl (And.intro rfl trivial)))))) ?_
          exact ih _ _ hf
        refine j_icmp_eq (tgt := 72) (pc := 61) X dX8_guessesAheadOf_61 rfl (fun c14 => ?_) (fun c14 => ?_)
        · have hf := kT c14 hf
          exact hj72_12 _ hf
        · have hf := kF c14 hf
          refine j_iload (pc := 64) X dX8_guessesAheadOf_64 rfl ?_
          refine j_if_eq (tgt := 72) (pc := 66) X dX8_guessesAheadOf_66 rfl (fun c15 => ?_) (fun c15 => ?_)
          · have hf := kT c15 hf
            exact hj72_12 _ hf
          · have hf := kF c15 hf
            refine j_iinc (pc := 69) X dX8_guessesAheadOf_69 rfl (v := x3 + 1) (by rw [kc_1]) (Nat.le_of_ble_eq_true rfl) (lv' := [some (.ref (ad 0)), some (.int a1), some (.int a2), some (.int a3), some (.int (x3 + 1)), some (.int x4), some (.int r9), some (.int t10)]) rfl ?_
            exact hj72_12 _ hf
      obtain ⟨j51_15, ej51_15, hf⟩ := jn_s hf
      have hj51_15 : ∀ (_ : Unit), j51_15 = some r → J g (WC cI cS ad) 8 C 51 [some (.ref (ad 0)), some (.int a1), some (.int a2), some (.int a3), some (.int x3), some (.int x4), some (.int r9), none] [] := by
        intro _ hf
        have hf := jE0 ej51_15 hf
        refine j_iconst (pc := 51) X dX8_guessesAheadOf_51 kc_1 ?_
        refine j_goto (tgt := 56) (pc := 52) X dX8_guessesAheadOf_52 rfl ?_
        exact hj56_10 _ hf
      refine j_icmp_lt (tgt := 51) (pc := 36) X dX8_guessesAheadOf_36 rfl (fun c17 => ?_) (fun c17 => ?_)
      · have hf := kT c17 hf
        exact hj51_15 () hf
      · have hf := kF c17 hf
        refine j_iload (pc := 39) X dX8_guessesAheadOf_39 rfl ?_
        refine j_iload_n (pc := 41) X dX8_guessesAheadOf_41 rfl ?_
        obtain ⟨j55_17, ej55_17, hf⟩ := jn_s hf
        have hj55_17 : ∀ (_ : Unit), j55_17 = some r → J g (WC cI cS ad) 8 C 55 [some (.ref (ad 0)), some (.int a1), some (.int a2), some (.int a3), some (.int x3), some (.int x4), some (.int r9), none] [] := by
          intro _ hf
          have hf := jE0 ej55_17 hf
          refine j_iconst (pc := 55) X dX8_guessesAheadOf_55 kc_0 ?_
          exact hj56_10 _ hf
        refine j_icmp_ne (tgt := 55) (pc := 42) X dX8_guessesAheadOf_42 rfl (fun c19 => ?_) (fun c19 => ?_)
        · have hf := kF c19 hf
          exact hj55_17 () hf
        · have hf := kT c19 hf
          refine j_iload (pc := 45) X dX8_guessesAheadOf_45 rfl ?_
          refine j_iload_n (pc := 47) X dX8_guessesAheadOf_47 rfl ?_
          refine j_icmp_ge (tgt := 55) (pc := 48) X dX8_guessesAheadOf_48 rfl (fun c20 => ?_) (fun c20 => ?_)
          · have hf := kT c20 hf
            exact hj55_17 () hf
          · have hf := kF c20 hf
            exact hj51_15 () hf
set_option maxHeartbeats 4000000 in
set_option maxRecDepth 100000 in
theorem t_X8_guessesAheadOf {g : kG} {cI cS : ClassId} {ad : Nat → Nat} {C : kS} (X : Kx g cI cS cX8_guessesAheadOf RX8 wsX8_guessesAheadOf 8 rm_X8_guessesAheadOf) {r : Int32} (hR : kRI g (WC cI cS ad) 8 cX8_guessesAheadOf .int C r) (N : Nat) (a1 : Int32) (a2 : Int32) (a3 : Int32)  (hf : f_X8_guessesAheadOf N C a1 a2 a3 = some r) : J g (WC cI cS ad) 8 C 0 [some (.ref (ad 0)), some (.int a1), some (.int a2), some (.int a3), none, none, none, none] [] := by
  unfold f_X8_guessesAheadOf at hf
  refine j_iconst (pc := 0) X dX8_guessesAheadOf_0 kc_0 ?_
  refine j_istore (pc := 1) X dX8_guessesAheadOf_1 (Nat.le_of_ble_eq_true rfl) (lv' := [some (.ref (ad 0)), some (.int a1), some (.int a2), some (.int a3), some (.int 0), none, none, none]) rfl ?_
  refine j_iconst (pc := 3) X dX8_guessesAheadOf_3 kc_0 ?_
  refine j_istore (pc := 4) X dX8_guessesAheadOf_4 (Nat.le_of_ble_eq_true rfl) (lv' := [some (.ref (ad 0)), some (.int a1), some (.int a2), some (.int a3), some (.int 0), some (.int 0), none, none]) rfl ?_
  obtain ⟨k78_1, ek78_1, hf⟩ := jn_s hf
  have hk78_1 : ∀ (x1 : Int32), k78_1 x1 = some r → J g (WC cI cS ad) 8 C 78 [some (.ref (ad 0)), some (.int a1), some (.int a2), some (.int a3), some (.int x1), none, none, none] [] := by
    intro x1 hf
    have hf := jE1 ek78_1 hf
    refine j_iload (pc := 78) X dX8_guessesAheadOf_78 rfl ?_
    exact j_retI hR dX8_guessesAheadOf_80 hf
  exact lt_X8_guessesAheadOf_6 X hR N a1 a2 a3     k78_1 hk78_1 N _ _ hf
theorem c_X8_guessesAheadOf {l : Launch} {D : va_G} {cI cS : ClassId} {ad : Nat → Nat} (N : Nat) (C : kS) (a1 : Int32) (a2 : Int32) (a3 : Int32) {r : Int32} (hf : f_X8_guessesAheadOf N C a1 a2 a3 = some r) : mI l yX8_guessesAheadOf wsX8_guessesAheadOf rm_X8_guessesAheadOf D cI cS (WC cI cS ad) C [.ref (ad 0), .int a1, .int a2, .int a3] r :=
  mI.of (by decide) rfl rfl (Nat.le_of_ble_eq_true rfl) (fun g X hR => t_X8_guessesAheadOf X  hR N a1 a2 a3  hf)
