abbrev rm_X9_count : Room := { frames := 6, cells := 0, slots := 0, locals := 134 }
theorem lk_X9_count_0 : Cond.fieldLink RX9 7 "BlackBarsModel" "s" "[I" ∈ wsX9_count := List.mem_of_getElem? (i := 1) rfl
theorem iw_X9_count_X9 : ∀ w ∈ wsX90, w ∈ wsX9_count := fun _ h => List.mem_cons_of_mem _ (List.mem_append_right _ h)
theorem lk_X9_count_1 : Cond.fieldLink RX9 116 "BlackBarsModel" "lines" "I" ∈ wsX9_count := List.mem_of_getElem? (i := 2) rfl
theorem lk_X9_count_2 : Cond.fieldLink RX9 93 "BlackBarsModel" "forms" "I" ∈ wsX9_count := List.mem_of_getElem? (i := 3) rfl
theorem lk_X9_count_3 : Cond.fieldLink RX9 40 "BlackBarsModel" "states" "I" ∈ wsX9_count := List.mem_of_getElem? (i := 4) rfl
theorem lk_X9_count_4 : Cond.fieldLink RX9 48 "BlackBarsModel" "typed" "I" ∈ wsX9_count := List.mem_of_getElem? (i := 5) rfl
def f_X9_count (N : Nat) (C : kS) (a1 : Int32) : Option (Int32 × kS) := (f_X9_in N a1 0 16).bind (fun r2 => if r2 = 0 then some ((-11), C) else (f_X9_laysNow N C).bind (fun C5 => if a1 = 0 then gIn 0 642 (some (C5 1 (0 : Int32).toNatClampNeg, C5)) else if a1 = 1 then (f_X9_sumOf N C5 a1).bind (fun r10 => some (r10, C5)) else if a1 = 2 then some (C5 0 14, C5) else if a1 = 3 then gIn ((1 + a1) - 3) 642 (some (C5 1 ((1 + a1) - 3).toNatClampNeg, C5)) else if a1 = 4 then gIn ((1 + a1) - 3) 642 (some (C5 1 ((1 + a1) - 3).toNatClampNeg, C5)) else if a1 = 5 then some (C5 0 9, C5) else if a1 = 6 then gIn ((3 + a1) - 6) 642 (some (C5 1 ((3 + a1) - 6).toNatClampNeg, C5)) else if a1 = 7 then gIn ((3 + a1) - 6) 642 (some (C5 1 ((3 + a1) - 6).toNatClampNeg, C5)) else if a1 = 8 then gIn ((3 + a1) - 6) 642 (some (C5 1 ((3 + a1) - 6).toNatClampNeg, C5)) else if a1 = 9 then gIn ((3 + a1) - 6) 642 (some (C5 1 ((3 + a1) - 6).toNatClampNeg, C5)) else if a1 = 10 then gIn ((3 + a1) - 6) 642 (some (C5 1 ((3 + a1) - 6).toNatClampNeg, C5)) else if a1 = 11 then (f_X9_sumOf N C5 a1).bind (fun r29 => some (r29, C5)) else if a1 = 12 then (f_X9_sumOf N C5 a1).bind (fun r32 => some (r32, C5)) else if a1 = 13 then (f_X9_sumOf N C5 a1).bind (fun r35 => some (r35, C5)) else if a1 = 14 then (f_X9_sumOf N C5 a1).bind (fun r38 => some (r38, C5)) else if a1 = 15 then some (C5 0 2, C5) else if a1 = 16 then some (C5 0 4, C5) else (f_X9_sumOf N C5 a1).bind (fun r42 => some (r42, C5))))
theorem hd_X9_count : kHd yX9_count 1 := by decide +kernel
set_option maxHeartbeats 4000000 in
set_option maxRecDepth 100000 in
theorem t_X9_count {g : kG} {cI cS : ClassId} {am : Nat → Nat} (X : Kx g cI cS cX9_count RX9 wsX9_count 2 rm_X9_count) {r : Int32} {Cr : kS} (hI : kInj 11 am) (Y : Kw g (WM cI am) (kAd 11 am)) (hR : kRI g (WM cI am) 2 cX9_count .int Cr r) (N : Nat) (C : kS) (a1 : Int32)  (hf : f_X9_count N C a1 = some (r, Cr)) : J g (WM cI am) 2 C 0 [some (.ref (am 0)), some (.int a1)] [] := by
  unfold f_X9_count at hf
  refine j_iload_n (pc := 0) X dX9_count_0 rfl ?_
  refine j_iconst (pc := 1) X dX9_count_1 kc_0 ?_
  refine j_bipush (pc := 2) X dX9_count_2 kb_16 ?_
  obtain ⟨r2, h1, hf⟩ := kB hf
  refine j_callP (pc := 4) X (c_X9_in N a1 0 16 h1) gX9_count_X9_in rfl ⟨rfl, rfl⟩ hd_X9_in ⟨(Nat.le_of_ble_eq_true rfl), (Nat.le_of_ble_eq_true rfl)⟩ rfl (Nat.le_of_ble_eq_true rfl) rfl dX9_count_4 ?_
  refine j_if_ne (tgt := 13) (pc := 7) X dX9_count_7 rfl (fun c3 => ?_) (fun c3 => ?_)
  · have hf := kF c3 hf
    refine j_aload_n (pc := 13) X dX9_count_13 rfl ?_
    obtain ⟨C5, h4, hf⟩ := kB hf
    refine j_callV (pc := 14) X Y (c_X9_laysNow hI N C  h4) gX9_count_X9_laysNow rfl ⟨rfl, rfl⟩ rfl hd_X9_laysNow ⟨(Nat.le_of_ble_eq_true rfl), (Nat.le_of_ble_eq_true rfl)⟩ wm0 rfl rfl rfl (Nat.le_of_ble_eq_true rfl) rfl dX9_count_14 ?_
    refine j_iload_n (pc := 17) X dX9_count_17 rfl ?_
    rcases Decidable.em (a1 = 0) with c6 | c6
    · have hf := kT c6 hf
      refine j_tabIn (v := 0) (off := 82) (tgt := 100) (pc := 18) X dX9_count_18 c6 (by decide) (by decide) (by decide) rfl ?_
      refine j_aload_n (pc := 100) X dX9_count_100 rfl ?_
      refine j_get (pc := 101) X iw_X9_count_X9 wm0 rfl 0 (Nat.le_of_ble_eq_true rfl) lk_X9_count_0 (v := .ref (am 1)) rfl dX9_count_101 ?_
      refine j_iconst (pc := 104) X dX9_count_104 kc_0 ?_
      obtain ⟨b7, hf⟩ := gIn_s hf
      refine j_iald (pc := 105) X wm1 b7 dX9_count_105 ?_
      exact j_retW hR dX9_count_106 hf
    · have hf := kF c6 hf
      rcases Decidable.em (a1 = 1) with c8 | c8
      · have hf := kT c8 hf
        refine j_tabIn (v := 1) (off := 132) (tgt := 150) (pc := 18) X dX9_count_18 c8 (by decide) (by decide) (by decide) rfl ?_
        refine j_aload_n (pc := 150) X dX9_count_150 rfl ?_
        refine j_iload_n (pc := 151) X dX9_count_151 rfl ?_
        obtain ⟨r10, h9, hf⟩ := kB hf
        refine j_callI (pc := 152) X (c_X9_sumOf N C5 a1 h9) gX9_count_X9_sumOf rfl ⟨rfl, rfl⟩ rfl hd_X9_sumOf ⟨(Nat.le_of_ble_eq_true rfl), (Nat.le_of_ble_eq_true rfl)⟩ wm0 rfl rfl rfl (Nat.le_of_ble_eq_true rfl) rfl dX9_count_152 ?_
        exact j_retW hR dX9_count_155 hf
      · have hf := kF c8 hf
        rcases Decidable.em (a1 = 2) with c11 | c11
        · have hf := kT c11 hf
          refine j_tabIn (v := 2) (off := 89) (tgt := 107) (pc := 18) X dX9_count_18 c11 (by decide) (by decide) (by decide) rfl ?_
          refine j_aload_n (pc := 107) X dX9_count_107 rfl ?_
          refine j_get (pc := 108) X iw_X9_count_X9 wm0 rfl 14 (Nat.le_of_ble_eq_true rfl) lk_X9_count_1 (v := .int (C5 0 14)) rfl dX9_count_108 ?_
          exact j_retW hR dX9_count_111 hf
        · have hf := kF c11 hf
          rcases Decidable.em (a1 = 3) with c12 | c12
          · have hf := kT c12 hf
            refine j_tabIn (v := 3) (off := 94) (tgt := 112) (pc := 18) X dX9_count_18 c12 (by decide) (by decide) (by decide) rfl ?_
            refine j_aload_n (pc := 112) X dX9_count_112 rfl ?_
            refine j_get (pc := 113) X iw_X9_count_X9 wm0 rfl 0 (Nat.le_of_ble_eq_true rfl) lk_X9_count_0 (v := .ref (am 1)) rfl dX9_count_113 ?_
            refine j_iconst (pc := 116) X dX9_count_116 kc_1 ?_
            refine j_iload_n (pc := 117) X dX9_count_117 rfl ?_
            refine j_iadd (pc := 118) X dX9_count_118 ?_
            refine j_iconst (pc := 119) X dX9_count_119 kc_3 ?_
            refine j_isub (pc := 120) X dX9_count_120 ?_
            obtain ⟨b13, hf⟩ := gIn_s hf
            refine j_iald (pc := 121) X wm1 b13 dX9_count_121 ?_
            exact j_retW hR dX9_count_122 hf
          · have hf := kF c12 hf
            rcases Decidable.em (a1 = 4) with c14 | c14
            · have hf := kT c14 hf
              refine j_tabIn (v := 4) (off := 94) (tgt := 112) (pc := 18) X dX9_count_18 c14 (by decide) (by decide) (by decide) rfl ?_
              refine j_aload_n (pc := 112) X dX9_count_112 rfl ?_
              refine j_get (pc := 113) X iw_X9_count_X9 wm0 rfl 0 (Nat.le_of_ble_eq_true rfl) lk_X9_count_0 (v := .ref (am 1)) rfl dX9_count_113 ?_
              refine j_iconst (pc := 116) X dX9_count_116 kc_1 ?_
              refine j_iload_n (pc := 117) X dX9_count_117 rfl ?_
              refine j_iadd (pc := 118) X dX9_count_118 ?_
              refine j_iconst (pc := 119) X dX9_count_119 kc_3 ?_
              refine j_isub (pc := 120) X dX9_count_120 ?_
              obtain ⟨b15, hf⟩ := gIn_s hf
              refine j_iald (pc := 121) X wm1 b15 dX9_count_121 ?_
              exact j_retW hR dX9_count_122 hf
            · have hf := kF c14 hf
              rcases Decidable.em (a1 = 5) with c16 | c16
              · have hf := kT c16 hf
                refine j_tabIn (v := 5) (off := 105) (tgt := 123) (pc := 18) X dX9_count_18 c16 (by decide) (by decide) (by decide) rfl ?_
                refine j_aload_n (pc := 123) X dX9_count_123 rfl ?_
                refine j_get (pc := 124) X iw_X9_count_X9 wm0 rfl 9 (Nat.le_of_ble_eq_true rfl) lk_X9_count_2 (v := .int (C5 0 9)) rfl dX9_count_124 ?_
                exact j_retW hR dX9_count_127 hf
              · have hf := kF c16 hf
                rcases Decidable.em (a1 = 6) with c17 | c17
                · have hf := kT c17 hf
                  refine j_tabIn (v := 6) (off := 110) (tgt := 128) (pc := 18) X dX9_count_18 c17 (by decide) (by decide) (by decide) rfl ?_
                  refine j_aload_n (pc := 128) X dX9_count_128 rfl ?_
                  refine j_get (pc := 129) X iw_X9_count_X9 wm0 rfl 0 (Nat.le_of_ble_eq_true rfl) lk_X9_count_0 (v := .ref (am 1)) rfl dX9_count_129 ?_
                  refine j_iconst (pc := 132) X dX9_count_132 kc_3 ?_
                  refine j_iload_n (pc := 133) X dX9_count_133 rfl ?_
                  refine j_iadd (pc := 134) X dX9_count_134 ?_
                  refine j_bipush (pc := 135) X dX9_count_135 kb_6 ?_
                  refine j_isub (pc := 137) X dX9_count_137 ?_
                  obtain ⟨b18, hf⟩ := gIn_s hf
                  refine j_iald (pc := 138) X wm1 b18 dX9_count_138 ?_
                  exact j_retW hR dX9_count_139 hf
                · have hf := kF c17 hf
                  rcases Decidable.em (a1 = 7) with c19 | c19
                  · have hf := kT c19 hf
                    refine j_tabIn (v := 7) (off := 110) (tgt := 128) (pc := 18) X dX9_count_18 c19 (by decide) (by decide) (by decide) rfl ?_
                    refine j_aload_n (pc := 128) X dX9_count_128 rfl ?_
                    refine j_get (pc := 129) X iw_X9_count_X9 wm0 rfl 0 (Nat.le_of_ble_eq_true rfl) lk_X9_count_0 (v := .ref (am 1)) rfl dX9_count_129 ?_
                    refine j_iconst (pc := 132) X dX9_count_132 kc_3 ?_
                    refine j_iload_n (pc := 133) X dX9_count_133 rfl ?_
                    refine j_iadd (pc := 134) X dX9_count_134 ?_
                    refine j_bipush (pc := 135) X dX9_count_135 kb_6 ?_
                    refine j_isub (pc := 137) X dX9_count_137 ?_
                    obtain ⟨b20, hf⟩ := gIn_s hf
                    refine j_iald (pc := 138) X wm1 b20 dX9_count_138 ?_
                    exact j_retW hR dX9_count_139 hf
                  · have hf := kF c19 hf
                    rcases Decidable.em (a1 = 8) with c21 | c21
                    · have hf := kT c21 hf
                      refine j_tabIn (v := 8) (off := 110) (tgt := 128) (pc := 18) X dX9_count_18 c21 (by decide) (by decide) (by decide) rfl ?_
                      refine j_aload_n (pc := 128) X dX9_count_128 rfl ?_
                      refine j_get (pc := 129) X iw_X9_count_X9 wm0 rfl 0 (Nat.le_of_ble_eq_true rfl) lk_X9_count_0 (v := .ref (am 1)) rfl dX9_count_129 ?_
                      refine j_iconst (pc := 132) X dX9_count_132 kc_3 ?_
                      refine j_iload_n (pc := 133) X dX9_count_133 rfl ?_
                      refine j_iadd (pc := 134) X dX9_count_134 ?_
                      refine j_bipush (pc := 135) X dX9_count_135 kb_6 ?_
                      refine j_isub (pc := 137) X dX9_count_137 ?_
                      obtain ⟨b22, hf⟩ := gIn_s hf
                      refine j_iald (pc := 138) X wm1 b22 dX9_count_138 ?_
                      exact j_retW hR dX9_count_139 hf
                    · have hf := kF c21 hf
                      rcases Decidable.em (a1 = 9) with c23 | c23
                      · have hf := kT c23 hf
                        refine j_tabIn (v := 9) (off := 110) (tgt := 128) (pc := 18) X dX9_count_18 c23 (by decide) (by decide) (by decide) rfl ?_
                        refine j_aload_n (pc := 128) X dX9_count_128 rfl ?_
                        refine j_get (pc := 129) X iw_X9_count_X9 wm0 rfl 0 (Nat.le_of_ble_eq_true rfl) lk_X9_count_0 (v := .ref (am 1)) rfl dX9_count_129 ?_
                        refine j_iconst (pc := 132) X dX9_count_132 kc_3 ?_
                        refine j_iload_n (pc := 133) X dX9_count_133 rfl ?_
                        refine j_iadd (pc := 134) X dX9_count_134 ?_
                        refine j_bipush (pc := 135) X dX9_count_135 kb_6 ?_
                        refine j_isub (pc := 137) X dX9_count_137 ?_
                        obtain ⟨b24, hf⟩ := gIn_s hf
                        refine j_iald (pc := 138) X wm1 b24 dX9_count_138 ?_
                        exact j_retW hR dX9_count_139 hf
                      · have hf := kF c23 hf
                        rcases Decidable.em (a1 = 10) with c25 | c25
                        · have hf := kT c25 hf
                          refine j_tabIn (v := 10) (off := 110) (tgt := 128) (pc := 18) X dX9_count_18 c25 (by decide) (by decide) (by decide) rfl ?_
                          refine j_aload_n (pc := 128) X dX9_count_128 rfl ?_
                          refine j_get (pc := 129) X iw_X9_count_X9 wm0 rfl 0 (Nat.le_of_ble_eq_true rfl) lk_X9_count_0 (v := .ref (am 1)) rfl dX9_count_129 ?_
                          refine j_iconst (pc := 132) X dX9_count_132 kc_3 ?_
                          refine j_iload_n (pc := 133) X dX9_count_133 rfl ?_
                          refine j_iadd (pc := 134) X dX9_count_134 ?_
                          refine j_bipush (pc := 135) X dX9_count_135 kb_6 ?_
                          refine j_isub (pc := 137) X dX9_count_137 ?_
                          obtain ⟨b26, hf⟩ := gIn_s hf
                          refine j_iald (pc := 138) X wm1 b26 dX9_count_138 ?_
                          exact j_retW hR dX9_count_139 hf
                        · have hf := kF c25 hf
                          rcases Decidable.em (a1 = 11) with c27 | c27
                          · have hf := kT c27 hf
                            refine j_tabIn (v := 11) (off := 132) (tgt := 150) (pc := 18) X dX9_count_18 c27 (by decide) (by decide) (by decide) rfl ?_
                            refine j_aload_n (pc := 150) X dX9_count_150 rfl ?_
                            refine j_iload_n (pc := 151) X dX9_count_151 rfl ?_
                            obtain ⟨r29, h28, hf⟩ := kB hf
                            refine j_callI (pc := 152) X (c_X9_sumOf N C5 a1 h28) gX9_count_X9_sumOf rfl ⟨rfl, rfl⟩ rfl hd_X9_sumOf ⟨(Nat.le_of_ble_eq_true rfl), (Nat.le_of_ble_eq_true rfl)⟩ wm0 rfl rfl rfl (Nat.le_of_ble_eq_true rfl) rfl dX9_count_152 ?_
                            exact j_retW hR dX9_count_155 hf
                          · have hf := kF c27 hf
                            rcases Decidable.em (a1 = 12) with c30 | c30
                            · have hf := kT c30 hf
                              refine j_tabIn (v := 12) (off := 132) (tgt := 150) (pc := 18) X dX9_count_18 c30 (by decide) (by decide) (by decide) rfl ?_
                              refine j_aload_n (pc := 150) X dX9_count_150 rfl ?_
                              refine j_iload_n (pc := 151) X dX9_count_151 rfl ?_
                              obtain ⟨r32, h31, hf⟩ := kB hf
                              refine j_callI (pc := 152) X (c_X9_sumOf N C5 a1 h31) gX9_count_X9_sumOf rfl ⟨rfl, rfl⟩ rfl hd_X9_sumOf ⟨(Nat.le_of_ble_eq_true rfl), (Nat.le_of_ble_eq_true rfl)⟩ wm0 rfl rfl rfl (Nat.le_of_ble_eq_true rfl) rfl dX9_count_152 ?_
                              exact j_retW hR dX9_count_155 hf
                            · have hf := kF c30 hf
                              rcases Decidable.em (a1 = 13) with c33 | c33
                              · have hf := kT c33 hf
                                refine j_tabIn (v := 13) (off := 132) (tgt := 150) (pc := 18) X dX9_count_18 c33 (by decide) (by decide) (by decide) rfl ?_
                                refine j_aload_n (pc := 150) X dX9_count_150 rfl ?_
                                refine j_iload_n (pc := 151) X dX9_count_151 rfl ?_
                                obtain ⟨r35, h34, hf⟩ := kB hf
                                refine j_callI (pc := 152) X (c_X9_sumOf N C5 a1 h34) gX9_count_X9_sumOf rfl ⟨rfl, rfl⟩ rfl hd_X9_sumOf ⟨(Nat.le_of_ble_eq_true rfl), (Nat.le_of_ble_eq_true rfl)⟩ wm0 rfl rfl rfl (Nat.le_of_ble_eq_true rfl) rfl dX9_count_152 ?_
                                exact j_retW hR dX9_count_155 hf
                              · have hf := kF c33 hf
                                rcases Decidable.em (a1 = 14) with c36 | c36
                                · have hf := kT c36 hf
                                  refine j_tabIn (v := 14) (off := 132) (tgt := 150) (pc := 18) X dX9_count_18 c36 (by decide) (by decide) (by decide) rfl ?_
                                  refine j_aload_n (pc := 150) X dX9_count_150 rfl ?_
                                  refine j_iload_n (pc := 151) X dX9_count_151 rfl ?_
                                  obtain ⟨r38, h37, hf⟩ := kB hf
                                  refine j_callI (pc := 152) X (c_X9_sumOf N C5 a1 h37) gX9_count_X9_sumOf rfl ⟨rfl, rfl⟩ rfl hd_X9_sumOf ⟨(Nat.le_of_ble_eq_true rfl), (Nat.le_of_ble_eq_true rfl)⟩ wm0 rfl rfl rfl (Nat.le_of_ble_eq_true rfl) rfl dX9_count_152 ?_
                                  exact j_retW hR dX9_count_155 hf
                                · have hf := kF c36 hf
                                  rcases Decidable.em (a1 = 15) with c39 | c39
                                  · have hf := kT c39 hf
                                    refine j_tabIn (v := 15) (off := 122) (tgt := 140) (pc := 18) X dX9_count_18 c39 (by decide) (by decide) (by decide) rfl ?_
                                    refine j_aload_n (pc := 140) X dX9_count_140 rfl ?_
                                    refine j_get (pc := 141) X iw_X9_count_X9 wm0 rfl 2 (Nat.le_of_ble_eq_true rfl) lk_X9_count_3 (v := .int (C5 0 2)) rfl dX9_count_141 ?_
                                    exact j_retW hR dX9_count_144 hf
                                  · have hf := kF c39 hf
                                    rcases Decidable.em (a1 = 16) with c40 | c40
                                    · have hf := kT c40 hf
                                      refine j_tabIn (v := 16) (off := 127) (tgt := 145) (pc := 18) X dX9_count_18 c40 (by decide) (by decide) (by decide) rfl ?_
                                      refine j_aload_n (pc := 145) X dX9_count_145 rfl ?_
                                      refine j_get (pc := 146) X iw_X9_count_X9 wm0 rfl 4 (Nat.le_of_ble_eq_true rfl) lk_X9_count_4 (v := .int (C5 0 4)) rfl dX9_count_146 ?_
                                      exact j_retW hR dX9_count_149 hf
                                    · have hf := kF c40 hf
                                      refine j_tabOut (tgt := 150) (pc := 18) X dX9_count_18 (by have gc6 := lv_neT (a := 0) c6 (by decide); have gc8 := lv_neT (a := 1) c8 (by decide); have gc11 := lv_neT (a := 2) c11 (by decide); have gc12 := lv_neT (a := 3) c12 (by decide); have gc14 := lv_neT (a := 4) c14 (by decide); have gc16 := lv_neT (a := 5) c16 (by decide); have gc17 := lv_neT (a := 6) c17 (by decide); have gc19 := lv_neT (a := 7) c19 (by decide); have gc21 := lv_neT (a := 8) c21 (by decide); have gc23 := lv_neT (a := 9) c23 (by decide); have gc25 := lv_neT (a := 10) c25 (by decide); have gc27 := lv_neT (a := 11) c27 (by decide); have gc30 := lv_neT (a := 12) c30 (by decide); have gc33 := lv_neT (a := 13) c33 (by decide); have gc36 := lv_neT (a := 14) c36 (by decide); have gc39 := lv_neT (a := 15) c39 (by decide); have gc40 := lv_neT (a := 16) c40 (by decide); omega) rfl ?_
                                      refine j_aload_n (pc := 150) X dX9_count_150 rfl ?_
                                      refine j_iload_n (pc := 151) X dX9_count_151 rfl ?_
                                      obtain ⟨r42, h41, hf⟩ := kB hf
                                      refine j_callI (pc := 152) X (c_X9_sumOf N C5 a1 h41) gX9_count_X9_sumOf rfl ⟨rfl, rfl⟩ rfl hd_X9_sumOf ⟨(Nat.le_of_ble_eq_true rfl), (Nat.le_of_ble_eq_true rfl)⟩ wm0 rfl rfl rfl (Nat.le_of_ble_eq_true rfl) rfl dX9_count_152 ?_
                                      exact j_retW hR dX9_count_155 hf
  · have hf := kT c3 hf
    refine j_bipush (pc := 10) X dX9_count_10 kb_m11 ?_
    exact j_retW hR dX9_count_12 hf
theorem c_X9_count {l : Launch} {D : va_G} {cI cS : ClassId} {am : Nat → Nat} (hI : kInj 11 am) (N : Nat) (C : kS) (a1 : Int32) {r : Int32} {Cr : kS} (hf : f_X9_count N C a1 = some (r, Cr)) : mW l yX9_count wsX9_count rm_X9_count D cI cS (WM cI am) (kAd 11 am) C [.ref (am 0), .int a1] r Cr :=
  mW.of (by decide) rfl rfl (Nat.le_of_ble_eq_true rfl) (WM_D hI) (fun g X Y hR => t_X9_count X hI Y hR N C a1  hf)
abbrev rm_X9_records : Room := { frames := 0, cells := 0, slots := 0, locals := 0 }
theorem lk_X9_records_0 : Cond.fieldLink RX9 40 "BlackBarsModel" "states" "I" ∈ wsX9_records := List.mem_of_getElem? (i := 1) rfl
theorem iw_X9_records_X9 : ∀ w ∈ wsX90, w ∈ wsX9_records := fun _ h => List.mem_cons_of_mem _ (List.mem_append_right _ h)
theorem lk_X9_records_1 : Cond.fieldLink RX9 13 "BlackBarsModel" "was" "[I" ∈ wsX9_records := List.mem_of_getElem? (i := 2) rfl
theorem lk_X9_records_2 : Cond.fieldLink RX9 7 "BlackBarsModel" "s" "[I" ∈ wsX9_records := List.mem_of_getElem? (i := 3) rfl
def lp_X9_records_51 (N : Nat) (k85_3 : kS → Option (kS)) : Nat → Int32 → kS → Option (kS)
  | 0, _, _ => none
  | n + 1, x6, C7 => if 642 ≤ x6 then k85_3 C7 else gIn x6 642 (gIn ((642 * (C7 0 2)) + x6) 2568 (jn (up1 C7 2 (upd (C7 2) (((642 * (C7 0 2)) + x6).toNatClampNeg) (C7 1 x6.toNatClampNeg))) (fun C11 : kS => lp_X9_records_51 N k85_3 n (x6 + 1) C11)))
def lp_X9_records_10 (N : Nat) (k39_13 : kS → Option (kS)) : Nat → Int32 → kS → Option (kS)
  | 0, _, _ => none
  | n + 1, x16, C17 => if 1926 ≤ x16 then k39_13 C17 else gIn (x16 + 642) 2568 (gIn x16 2568 (jn (up1 C17 2 (upd (C17 2) (x16.toNatClampNeg) (C17 2 (x16 + 642).toNatClampNeg))) (fun C21 : kS => lp_X9_records_10 N k39_13 n (x16 + 1) C21)))
def f_X9_records (N : Nat) (C : kS) : Option (kS) := jn (fun (C1 : kS) => jn (fun (C3 : kS) => jn (up1 C3 0 (upd (C3 0) 2 ((C3 0 2) + 1))) (fun C5 : kS => some C5)) (fun k85_3 => lp_X9_records_51 N k85_3 N 0 C1)) (fun j49_1 => if (C 0 2) = 4 then jn (fun (C13 : kS) => jn (up1 C13 0 (upd (C13 0) 2 ((C13 0 2) - 1))) (fun C15 : kS => j49_1 C15)) (fun k39_13 => lp_X9_records_10 N k39_13 N 0 C) else j49_1 C)
theorem hd_X9_records : kHd yX9_records 0 := by decide +kernel
set_option maxHeartbeats 4000000 in
set_option maxRecDepth 100000 in
theorem lt_X9_records_51 {g : kG} {cI cS : ClassId} {am : Nat → Nat} (X : Kx g cI cS cX9_records RX9 wsX9_records 2 rm_X9_records) {Cr : kS} (hI : kInj 11 am) (Y : Kw g (WM cI am) (kAd 11 am)) (hR : kRV g (WM cI am) 2 cX9_records Cr) (N : Nat)   (k85_3 : kS → Option (kS)) (hk85_3 : ∀ (C3 : kS), k85_3 C3 = some Cr → J g (WM cI am) 2 C3 85 [some (.ref (am 0)), none] []) : ∀ (n : Nat) (x6 : Int32) (C7 : kS), lp_X9_records_51 N k85_3 n x6 C7 = some Cr → J g (WM cI am) 2 C7 51 [some (.ref (am 0)), some (.int x6)] [] := by
  intro n
  induction n with
  | zero =>
    intro x6 C7 hf
    rw [lp_X9_records_51] at hf
    cases hf
  | succ n ih =>
    intro x6 C7 hf
    rw [lp_X9_records_51] at hf
    refine j_iload_n (pc := 51) X dX9_records_51 rfl ?_
    refine j_sipush (pc := 52) X dX9_records_52 ks_642 ?_
    refine j_icmp_ge (tgt := 85) (pc := 55) X dX9_records_55 rfl (fun c8 => ?_) (fun c8 => ?_)
    · have hf := kT c8 hf
      refine j_weak (lv' := [some (.ref (am 0)), none]) (And.intro rfl trivial) ?_
      exact hk85_3 _ hf
    · have hf := kF c8 hf
      refine j_aload_n (pc := 58) X dX9_records_58 rfl ?_
      refine j_get (pc := 59) X iw_X9_records_X9 wm0 rfl 1 (Nat.le_of_ble_eq_true rfl) lk_X9_records_1 (v := .ref (am 2)) rfl dX9_records_59 ?_
      refine j_sipush (pc := 62) X dX9_records_62 ks_642 ?_
      refine j_aload_n (pc := 65) X dX9_records_65 rfl ?_
      refine j_get (pc := 66) X iw_X9_records_X9 wm0 rfl 2 (Nat.le_of_ble_eq_true rfl) lk_X9_records_0 (v := .int (C7 0 2)) rfl dX9_records_66 ?_
      refine j_imul (pc := 69) X dX9_records_69 ?_
      refine j_iload_n (pc := 70) X dX9_records_70 rfl ?_
      refine j_iadd (pc := 71) X dX9_records_71 ?_
      refine j_aload_n (pc := 72) X dX9_records_72 rfl ?_
      refine j_get (pc := 73) X iw_X9_records_X9 wm0 rfl 0 (Nat.le_of_ble_eq_true rfl) lk_X9_records_2 (v := .ref (am 1)) rfl dX9_records_73 ?_
      refine j_iload_n (pc := 76) X dX9_records_76 rfl ?_
      obtain ⟨b9, hf⟩ := gIn_s hf
      refine j_iald (pc := 77) X wm1 b9 dX9_records_77 ?_
      obtain ⟨b10, hf⟩ := gIn_s hf
      obtain ⟨C11, eC11, hf⟩ := jn_s hf
      refine j_iast (C' := C11) (pc := 78) X Y wm2 b10 dX9_records_78 (by rw [eC11]; exact sm2 _) ?_
      refine j_iinc (pc := 79) X dX9_records_79 rfl (v := x6 + 1) (by rw [kc_1]) (Nat.le_of_ble_eq_true rfl) (lv' := [some (.ref (am 0)), some (.int (x6 + 1))]) rfl ?_
      refine j_goto (tgt := 51) (pc := 82) X dX9_records_82 rfl ?_
      exact ih _ _ hf
set_option maxHeartbeats 4000000 in
set_option maxRecDepth 100000 in
theorem lt_X9_records_10 {g : kG} {cI cS : ClassId} {am : Nat → Nat} (X : Kx g cI cS cX9_records RX9 wsX9_records 2 rm_X9_records) {Cr : kS} (hI : kInj 11 am) (Y : Kw g (WM cI am) (kAd 11 am)) (hR : kRV g (WM cI am) 2 cX9_records Cr) (N : Nat)   (k39_13 : kS → Option (kS)) (hk39_13 : ∀ (C13 : kS), k39_13 C13 = some Cr → J g (WM cI am) 2 C13 39 [some (.ref (am 0)), none] []) : ∀ (n : Nat) (x16 : Int32) (C17 : kS), lp_X9_records_10 N k39_13 n x16 C17 = some Cr → J g (WM cI am) 2 C17 10 [some (.ref (am 0)), some (.int x16)] [] := by
  intro n
  induction n with
  | zero =>
    intro x16 C17 hf
    rw [lp_X9_records_10] at hf
    cases hf
  | succ n ih =>
    intro x16 C17 hf
    rw [lp_X9_records_10] at hf
    refine j_iload_n (pc := 10) X dX9_records_10 rfl ?_
    refine j_sipush (pc := 11) X dX9_records_11 ks_1926 ?_
    refine j_icmp_ge (tgt := 39) (pc := 14) X dX9_records_14 rfl (fun c18 => ?_) (fun c18 => ?_)
    · have hf := kT c18 hf
      refine j_weak (lv' := [some (.ref (am 0)), none]) (And.intro rfl trivial) ?_
      exact hk39_13 _ hf
    · have hf := kF c18 hf
      refine j_aload_n (pc := 17) X dX9_records_17 rfl ?_
      refine j_get (pc := 18) X iw_X9_records_X9 wm0 rfl 1 (Nat.le_of_ble_eq_true rfl) lk_X9_records_1 (v := .ref (am 2)) rfl dX9_records_18 ?_
      refine j_iload_n (pc := 21) X dX9_records_21 rfl ?_
      refine j_aload_n (pc := 22) X dX9_records_22 rfl ?_
      refine j_get (pc := 23) X iw_X9_records_X9 wm0 rfl 1 (Nat.le_of_ble_eq_true rfl) lk_X9_records_1 (v := .ref (am 2)) rfl dX9_records_23 ?_
      refine j_iload_n (pc := 26) X dX9_records_26 rfl ?_
      refine j_sipush (pc := 27) X dX9_records_27 ks_642 ?_
      refine j_iadd (pc := 30) X dX9_records_30 ?_
      obtain ⟨b19, hf⟩ := gIn_s hf
      refine j_iald (pc := 31) X wm2 b19 dX9_records_31 ?_
      obtain ⟨b20, hf⟩ := gIn_s hf
      obtain ⟨C21, eC21, hf⟩ := jn_s hf
      refine j_iast (C' := C21) (pc := 32) X Y wm2 b20 dX9_records_32 (by rw [eC21]; exact sm2 _) ?_
      refine j_iinc (pc := 33) X dX9_records_33 rfl (v := x16 + 1) (by rw [kc_1]) (Nat.le_of_ble_eq_true rfl) (lv' := [some (.ref (am 0)), some (.int (x16 + 1))]) rfl ?_
      refine j_goto (tgt := 10) (pc := 36) X dX9_records_36 rfl ?_
      exact ih _ _ hf
set_option maxHeartbeats 4000000 in
set_option maxRecDepth 100000 in
theorem t_X9_records {g : kG} {cI cS : ClassId} {am : Nat → Nat} (X : Kx g cI cS cX9_records RX9 wsX9_records 2 rm_X9_records) {Cr : kS} (hI : kInj 11 am) (Y : Kw g (WM cI am) (kAd 11 am)) (hR : kRV g (WM cI am) 2 cX9_records Cr) (N : Nat) (C : kS)   (hf : f_X9_records N C = some Cr) : J g (WM cI am) 2 C 0 [some (.ref (am 0)), none] [] := by
  unfold f_X9_records at hf
  refine j_aload_n (pc := 0) X dX9_records_0 rfl ?_
  refine j_get (pc := 1) X iw_X9_records_X9 wm0 rfl 2 (Nat.le_of_ble_eq_true rfl) lk_X9_records_0 (v := .int (C 0 2)) rfl dX9_records_1 ?_
  refine j_iconst (pc := 4) X dX9_records_4 kc_4 ?_
  obtain ⟨j49_1, ej49_1, hf⟩ := jn_s hf
  have hj49_1 : ∀ (C1 : kS), j49_1 C1 = some Cr → J g (WM cI am) 2 C1 49 [some (.ref (am 0)), none] [] := by
    intro C1 hf
    have hf := jE1 ej49_1 hf
    refine j_iconst (pc := 49) X dX9_records_49 kc_0 ?_
    refine j_istore_n (pc := 50) X dX9_records_50 (Nat.le_of_ble_eq_true rfl) (lv' := [some (.ref (am 0)), some (.int 0)]) rfl ?_
    obtain ⟨k85_3, ek85_3, hf⟩ := jn_s hf
    have hk85_3 : ∀ (C3 : kS), k85_3 C3 = some Cr → J g (WM cI am) 2 C3 85 [some (.ref (am 0)), none] [] := by
      intro C3 hf
      have hf := jE1 ek85_3 hf
      refine j_aload_n (pc := 85) X dX9_records_85 rfl ?_
      refine j_dup (pc := 86) X dX9_records_86 rfl ?_
      refine j_get (pc := 87) X iw_X9_records_X9 wm0 rfl 2 (Nat.le_of_ble_eq_true rfl) lk_X9_records_0 (v := .int (C3 0 2)) rfl dX9_records_87 ?_
      refine j_iconst (pc := 90) X dX9_records_90 kc_1 ?_
      refine j_iadd (pc := 91) X dX9_records_91 ?_
      obtain ⟨C5, eC5, hf⟩ := jn_s hf
      refine j_put (C' := C5) (pc := 92) X Y iw_X9_records_X9 tyX9 tyX9_ok nmX9 wm0 rfl 2 (Nat.le_of_ble_eq_true rfl) lk_X9_records_0 rfl (tyX9_ok 2 (Nat.le_of_ble_eq_true rfl)) (Nat.le_of_ble_eq_true rfl) dX9_records_92 (by rw [eC5]; exact sm0_2 _) ?_
      exact j_retV hR dX9_records_95 hf
    exact lt_X9_records_51 X hI Y hR N   k85_3 hk85_3 N _ _ hf
  refine j_icmp_ne (tgt := 49) (pc := 5) X dX9_records_5 rfl (fun c12 => ?_) (fun c12 => ?_)
  · have hf := kF c12 hf
    exact hj49_1 _ hf
  · have hf := kT c12 hf
    refine j_iconst (pc := 8) X dX9_records_8 kc_0 ?_
    refine j_istore_n (pc := 9) X dX9_records_9 (Nat.le_of_ble_eq_true rfl) (lv' := [some (.ref (am 0)), some (.int 0)]) rfl ?_
    obtain ⟨k39_13, ek39_13, hf⟩ := jn_s hf
    have hk39_13 : ∀ (C13 : kS), k39_13 C13 = some Cr → J g (WM cI am) 2 C13 39 [some (.ref (am 0)), none] [] := by
      intro C13 hf
      have hf := jE1 ek39_13 hf
      refine j_aload_n (pc := 39) X dX9_records_39 rfl ?_
      refine j_dup (pc := 40) X dX9_records_40 rfl ?_
      refine j_get (pc := 41) X iw_X9_records_X9 wm0 rfl 2 (Nat.le_of_ble_eq_true rfl) lk_X9_records_0 (v := .int (C13 0 2)) rfl dX9_records_41 ?_
      refine j_iconst (pc := 44) X dX9_records_44 kc_1 ?_
      refine j_isub (pc := 45) X dX9_records_45 ?_
      obtain ⟨C15, eC15, hf⟩ := jn_s hf
      refine j_put (C' := C15) (pc := 46) X Y iw_X9_records_X9 tyX9 tyX9_ok nmX9 wm0 rfl 2 (Nat.le_of_ble_eq_true rfl) lk_X9_records_0 rfl (tyX9_ok 2 (Nat.le_of_ble_eq_true rfl)) (Nat.le_of_ble_eq_true rfl) dX9_records_46 (by rw [eC15]; exact sm0_2 _) ?_
      exact hj49_1 _ hf
    exact lt_X9_records_10 X hI Y hR N   k39_13 hk39_13 N _ _ hf
theorem c_X9_records {l : Launch} {D : va_G} {cI cS : ClassId} {am : Nat → Nat} (hI : kInj 11 am) (N : Nat) (C : kS)  {Cr : kS} (hf : f_X9_records N C = some Cr) : mV l yX9_records wsX9_records rm_X9_records D cI cS (WM cI am) (kAd 11 am) C [.ref (am 0)] Cr :=
  mV.of (by decide) rfl rfl (Nat.le_of_ble_eq_true rfl) (WM_D hI) (fun g X Y hR => t_X9_records X hI Y hR N C   hf)
abbrev rm_X9_drops : Room := { frames := 1, cells := 0, slots := 0, locals := 21 }
theorem lk_X9_drops_0 : Cond.fieldLink RX9 7 "BlackBarsModel" "s" "[I" ∈ wsX9_drops := List.mem_of_getElem? (i := 1) rfl
theorem iw_X9_drops_X9 : ∀ w ∈ wsX90, w ∈ wsX9_drops := fun _ h => List.mem_cons_of_mem _ (List.mem_append_right _ h)
def lp_X9_drops_41 (N : Nat) (a1 : Int32) (a2 : Int32) (a3 : Int32) (k78_9 : kS → Option (Int32 × kS)) : Nat → Int32 → kS → Option (Int32 × kS)
  | 0, _, _ => none
  | n + 1, x12, C13 => gIn a1 642 (if (a2 + (a3 * (C13 1 a1.toNatClampNeg))) ≤ x12 then k78_9 C13 else gIn (x12 + a3) 642 (gIn x12 642 (jn (up1 C13 1 (upd (C13 1) (x12.toNatClampNeg) (C13 1 (x12 + a3).toNatClampNeg))) (fun C18 : kS => lp_X9_drops_41 N a1 a2 a3 k78_9 n (x12 + 1) C18))))
def f_X9_drops (N : Nat) (C : kS) (a1 : Int32) (a2 : Int32) (a3 : Int32) (a4 : Int32) : Option (Int32 × kS) := if a4 < 0 then some ((-11), C) else gIn a1 642 (if a4 < (C 1 a1.toNatClampNeg) then (f_X9_records N C).bind (fun C5 => gIn a1 642 (gIn a1 642 (jn (up1 C5 1 (upd (C5 1) (a1.toNatClampNeg) ((C5 1 a1.toNatClampNeg) - 1))) (fun C8 : kS => jn (fun (C9 : kS) => gIn a1 642 (some (C9 1 a1.toNatClampNeg, C9))) (fun k78_9 => lp_X9_drops_41 N a1 a2 a3 k78_9 N (a2 + (a3 * a4)) C8))))) else some ((-11), C))
theorem hd_X9_drops : kHd yX9_drops 4 := by decide +kernel
set_option maxHeartbeats 4000000 in
set_option maxRecDepth 100000 in
theorem lt_X9_drops_41 {g : kG} {cI cS : ClassId} {am : Nat → Nat} (X : Kx g cI cS cX9_drops RX9 wsX9_drops 6 rm_X9_drops) {r : Int32} {Cr : kS} (hI : kInj 11 am) (Y : Kw g (WM cI am) (kAd 11 am)) (hR : kRI g (WM cI am) 6 cX9_drops .int Cr r) (N : Nat) (a1 : Int32) (a2 : Int32) (a3 : Int32) (a4 : Int32)  (k78_9 : kS → Option (Int32 × kS)) (hk78_9 : ∀ (C9 : kS), k78_9 C9 = some (r, Cr) → J g (WM cI am) 6 C9 78 [some (.ref (am 0)), some (.int a1), some (.int a2), some (.int a3), some (.int a4), none] []) : ∀ (n : Nat) (x12 : Int32) (C13 : kS), lp_X9_drops_41 N a1 a2 a3 k78_9 n x12 C13 = some (r, Cr) → J g (WM cI am) 6 C13 41 [some (.ref (am 0)), some (.int a1), some (.int a2), some (.int a3), some (.int a4), some (.int x12)] [] := by
  intro n
  induction n with
  | zero =>
    intro x12 C13 hf
    rw [lp_X9_drops_41] at hf
    cases hf
  | succ n ih =>
    intro x12 C13 hf
    rw [lp_X9_drops_41] at hf
    refine j_iload (pc := 41) X dX9_drops_41 rfl ?_
    refine j_iload_n (pc := 43) X dX9_drops_43 rfl ?_
    refine j_iload_n (pc := 44) X dX9_drops_44 rfl ?_
    refine j_aload_n (pc := 45) X dX9_drops_45 rfl ?_
    refine j_get (pc := 46) X iw_X9_drops_X9 wm0 rfl 0 (Nat.le_of_ble_eq_true rfl) lk_X9_drops_0 (v := .ref (am 1)) rfl dX9_drops_46 ?_
    refine j_iload_n (pc := 49) X dX9_drops_49 rfl ?_
    obtain ⟨b14, hf⟩ := gIn_s hf
    refine j_iald (pc := 50) X wm1 b14 dX9_drops_50 ?_
    refine j_imul (pc := 51) X dX9_drops_51 ?_
    refine j_iadd (pc := 52) X dX9_drops_52 ?_
    refine j_icmp_ge (tgt := 78) (pc := 53) X dX9_drops_53 rfl (fun c15 => ?_) (fun c15 => ?_)
    · have hf := kT c15 hf
      refine j_weak (lv' := [some (.ref (am 0)), some (.int a1), some (.int a2), some (.int a3), some (.int a4), none]) (And.intro rfl (And.intro rfl (And.intro rfl (And.intro rfl (And.intro rfl trivial))))) ?_
      exact hk78_9 _ hf
    · have hf := kF c15 hf
      refine j_aload_n (pc := 56) X dX9_drops_56 rfl ?_
      refine j_get (pc := 57) X iw_X9_drops_X9 wm0 rfl 0 (Nat.le_of_ble_eq_true rfl) lk_X9_drops_0 (v := .ref (am 1)) rfl dX9_drops_57 ?_
      refine j_iload (pc := 60) X dX9_drops_60 rfl ?_
      refine j_aload_n (pc := 62) X dX9_drops_62 rfl ?_
      refine j_get (pc := 63) X iw_X9_drops_X9 wm0 rfl 0 (Nat.le_of_ble_eq_true rfl) lk_X9_drops_0 (v := .ref (am 1)) rfl dX9_drops_63 ?_
      refine j_iload (pc := 66) X dX9_drops_66 rfl ?_
      refine j_iload_n (pc := 68) X dX9_drops_68 rfl ?_
      refine j_iadd (pc := 69) X dX9_drops_69 ?_
      obtain ⟨b16, hf⟩ := gIn_s hf
      refine j_iald (pc := 70) X wm1 b16 dX9_drops_70 ?_
      obtain ⟨b17, hf⟩ := gIn_s hf
      obtain ⟨C18, eC18, hf⟩ := jn_s hf
      refine j_iast (C' := C18) (pc := 71) X Y wm1 b17 dX9_drops_71 (by rw [eC18]; exact sm1 _) ?_
      refine j_iinc (pc := 72) X dX9_drops_72 rfl (v := x12 + 1) (by rw [kc_1]) (Nat.le_of_ble_eq_true rfl) (lv' := [some (.ref (am 0)), some (.int a1), some (.int a2), some (.int a3), some (.int a4), some (.int (x12 + 1))]) rfl ?_
      refine j_goto (tgt := 41) (pc := 75) X dX9_drops_75 rfl ?_
      exact ih _ _ hf
set_option maxHeartbeats 4000000 in
set_option maxRecDepth 100000 in
theorem t_X9_drops {g : kG} {cI cS : ClassId} {am : Nat → Nat} (X : Kx g cI cS cX9_drops RX9 wsX9_drops 6 rm_X9_drops) {r : Int32} {Cr : kS} (hI : kInj 11 am) (Y : Kw g (WM cI am) (kAd 11 am)) (hR : kRI g (WM cI am) 6 cX9_drops .int Cr r) (N : Nat) (C : kS) (a1 : Int32) (a2 : Int32) (a3 : Int32) (a4 : Int32)  (hf : f_X9_drops N C a1 a2 a3 a4 = some (r, Cr)) : J g (WM cI am) 6 C 0 [some (.ref (am 0)), some (.int a1), some (.int a2), some (.int a3), some (.int a4), none] [] := by
  unfold f_X9_drops at hf
  refine j_iload (pc := 0) X dX9_drops_0 rfl ?_
  refine j_if_lt (tgt := 16) (pc := 2) X dX9_drops_2 rfl (fun c1 => ?_) (fun c1 => ?_)
  · have hf := kT c1 hf
    refine j_bipush (pc := 16) X dX9_drops_16 kb_m11 ?_
    exact j_retW hR dX9_drops_18 hf
  · have hf := kF c1 hf
    refine j_iload (pc := 5) X dX9_drops_5 rfl ?_
    refine j_aload_n (pc := 7) X dX9_drops_7 rfl ?_
    refine j_get (pc := 8) X iw_X9_drops_X9 wm0 rfl 0 (Nat.le_of_ble_eq_true rfl) lk_X9_drops_0 (v := .ref (am 1)) rfl dX9_drops_8 ?_
    refine j_iload_n (pc := 11) X dX9_drops_11 rfl ?_
    obtain ⟨b2, hf⟩ := gIn_s hf
    refine j_iald (pc := 12) X wm1 b2 dX9_drops_12 ?_
    refine j_icmp_lt (tgt := 19) (pc := 13) X dX9_drops_13 rfl (fun c3 => ?_) (fun c3 => ?_)
    · have hf := kT c3 hf
      refine j_aload_n (pc := 19) X dX9_drops_19 rfl ?_
      obtain ⟨C5, h4, hf⟩ := kB hf
      refine j_callV (pc := 20) X Y (c_X9_records hI N C  h4) gX9_drops_X9_records rfl ⟨rfl, rfl⟩ rfl hd_X9_records ⟨(Nat.le_of_ble_eq_true rfl), (Nat.le_of_ble_eq_true rfl)⟩ wm0 rfl rfl rfl (Nat.le_of_ble_eq_true rfl) rfl dX9_drops_20 ?_
      refine j_aload_n (pc := 23) X dX9_drops_23 rfl ?_
      refine j_get (pc := 24) X iw_X9_drops_X9 wm0 rfl 0 (Nat.le_of_ble_eq_true rfl) lk_X9_drops_0 (v := .ref (am 1)) rfl dX9_drops_24 ?_
      refine j_iload_n (pc := 27) X dX9_drops_27 rfl ?_
      refine j_dup2 (pc := 28) X dX9_drops_28 rfl rfl ?_
      obtain ⟨b6, hf⟩ := gIn_s hf
      refine j_iald (pc := 29) X wm1 b6 dX9_drops_29 ?_
      refine j_iconst (pc := 30) X dX9_drops_30 kc_1 ?_
      refine j_isub (pc := 31) X dX9_drops_31 ?_
      obtain ⟨b7, hf⟩ := gIn_s hf
      obtain ⟨C8, eC8, hf⟩ := jn_s hf
      refine j_iast (C' := C8) (pc := 32) X Y wm1 b7 dX9_drops_32 (by rw [eC8]; exact sm1 _) ?_
      refine j_iload_n (pc := 33) X dX9_drops_33 rfl ?_
      refine j_iload_n (pc := 34) X dX9_drops_34 rfl ?_
      refine j_iload (pc := 35) X dX9_drops_35 rfl ?_
      refine j_imul (pc := 37) X dX9_drops_37 ?_
      refine j_iadd (pc := 38) X dX9_drops_38 ?_
      refine j_istore (pc := 39) X dX9_drops_39 (Nat.le_of_ble_eq_true rfl) (lv' := [some (.ref (am 0)), some (.int a1), some (.int a2), some (.int a3), some (.int a4), some (.int (a2 + (a3 * a4)))]) rfl ?_
      obtain ⟨k78_9, ek78_9, hf⟩ := jn_s hf
      have hk78_9 : ∀ (C9 : kS), k78_9 C9 = some (r, Cr) → J g (WM cI am) 6 C9 78 [some (.ref (am 0)), some (.int a1), some (.int a2), some (.int a3), some (.int a4), none] [] := by
        intro C9 hf
        have hf := jE1 ek78_9 hf
        refine j_aload_n (pc := 78) X dX9_drops_78 rfl ?_
        refine j_get (pc := 79) X iw_X9_drops_X9 wm0 rfl 0 (Nat.le_of_ble_eq_true rfl) lk_X9_drops_0 (v := .ref (am 1)) rfl dX9_drops_79 ?_
        refine j_iload_n (pc := 82) X dX9_drops_82 rfl ?_
        obtain ⟨b11, hf⟩ := gIn_s hf
        refine j_iald (pc := 83) X wm1 b11 dX9_drops_83 ?_
        exact j_retW hR dX9_drops_84 hf
      exact lt_X9_drops_41 X hI Y hR N a1 a2 a3 a4     k78_9 hk78_9 N _ _ hf
    · have hf := kF c3 hf
      refine j_bipush (pc := 16) X dX9_drops_16 kb_m11 ?_
      exact j_retW hR dX9_drops_18 hf
theorem c_X9_drops {l : Launch} {D : va_G} {cI cS : ClassId} {am : Nat → Nat} (hI : kInj 11 am) (N : Nat) (C : kS) (a1 : Int32) (a2 : Int32) (a3 : Int32) (a4 : Int32) {r : Int32} {Cr : kS} (hf : f_X9_drops N C a1 a2 a3 a4 = some (r, Cr)) : mW l yX9_drops wsX9_drops rm_X9_drops D cI cS (WM cI am) (kAd 11 am) C [.ref (am 0), .int a1, .int a2, .int a3, .int a4] r Cr :=
  mW.of (by decide) rfl rfl (Nat.le_of_ble_eq_true rfl) (WM_D hI) (fun g X Y hR => t_X9_drops X hI Y hR N C a1 a2 a3 a4  hf)
abbrev rm_X9_dropEnding : Room := { frames := 2, cells := 0, slots := 0, locals := 46 }
def f_X9_dropEnding (N : Nat) (C : kS) (a1 : Int32) : Option (Int32 × kS) := (f_X9_drops N C 2 626 4 a1).bind (fun p2 => some (p2.1, p2.2))
theorem hd_X9_dropEnding : kHd yX9_dropEnding 1 := by decide +kernel
set_option maxHeartbeats 4000000 in
set_option maxRecDepth 100000 in
theorem t_X9_dropEnding {g : kG} {cI cS : ClassId} {am : Nat → Nat} (X : Kx g cI cS cX9_dropEnding RX9 wsX9_dropEnding 2 rm_X9_dropEnding) {r : Int32} {Cr : kS} (hI : kInj 11 am) (Y : Kw g (WM cI am) (kAd 11 am)) (hR : kRI g (WM cI am) 2 cX9_dropEnding .int Cr r) (N : Nat) (C : kS) (a1 : Int32)  (hf : f_X9_dropEnding N C a1 = some (r, Cr)) : J g (WM cI am) 2 C 0 [some (.ref (am 0)), some (.int a1)] [] := by
  unfold f_X9_dropEnding at hf
  refine j_aload_n (pc := 0) X dX9_dropEnding_0 rfl ?_
  refine j_iconst (pc := 1) X dX9_dropEnding_1 kc_2 ?_
  refine j_sipush (pc := 2) X dX9_dropEnding_2 ks_626 ?_
  refine j_iconst (pc := 5) X dX9_dropEnding_5 kc_4 ?_
  refine j_iload_n (pc := 6) X dX9_dropEnding_6 rfl ?_
  obtain ⟨p2, h1, hf⟩ := kB hf
  refine j_callW (pc := 7) X Y (c_X9_drops hI N C 2 626 4 a1 h1) gX9_dropEnding_X9_drops rfl ⟨rfl, rfl⟩ rfl hd_X9_drops ⟨(Nat.le_of_ble_eq_true rfl), (Nat.le_of_ble_eq_true rfl)⟩ wm0 rfl rfl rfl (Nat.le_of_ble_eq_true rfl) rfl dX9_dropEnding_7 ?_
  exact j_retW hR dX9_dropEnding_10 hf
theorem c_X9_dropEnding {l : Launch} {D : va_G} {cI cS : ClassId} {am : Nat → Nat} (hI : kInj 11 am) (N : Nat) (C : kS) (a1 : Int32) {r : Int32} {Cr : kS} (hf : f_X9_dropEnding N C a1 = some (r, Cr)) : mW l yX9_dropEnding wsX9_dropEnding rm_X9_dropEnding D cI cS (WM cI am) (kAd 11 am) C [.ref (am 0), .int a1] r Cr :=
  mW.of (by decide) rfl rfl (Nat.le_of_ble_eq_true rfl) (WM_D hI) (fun g X Y hR => t_X9_dropEnding X hI Y hR N C a1  hf)
abbrev rm_X9_dropName : Room := { frames := 2, cells := 0, slots := 0, locals := 46 }
def f_X9_dropName (N : Nat) (C : kS) (a1 : Int32) : Option (Int32 × kS) := (f_X9_drops N C 1 554 9 a1).bind (fun p2 => some (p2.1, p2.2))
theorem hd_X9_dropName : kHd yX9_dropName 1 := by decide +kernel
set_option maxHeartbeats 4000000 in
set_option maxRecDepth 100000 in
theorem t_X9_dropName {g : kG} {cI cS : ClassId} {am : Nat → Nat} (X : Kx g cI cS cX9_dropName RX9 wsX9_dropName 2 rm_X9_dropName) {r : Int32} {Cr : kS} (hI : kInj 11 am) (Y : Kw g (WM cI am) (kAd 11 am)) (hR : kRI g (WM cI am) 2 cX9_dropName .int Cr r) (N : Nat) (C : kS) (a1 : Int32)  (hf : f_X9_dropName N C a1 = some (r, Cr)) : J g (WM cI am) 2 C 0 [some (.ref (am 0)), some (.int a1)] [] := by
  unfold f_X9_dropName at hf
  refine j_aload_n (pc := 0) X dX9_dropName_0 rfl ?_
  refine j_iconst (pc := 1) X dX9_dropName_1 kc_1 ?_
  refine j_sipush (pc := 2) X dX9_dropName_2 ks_554 ?_
  refine j_bipush (pc := 5) X dX9_dropName_5 kb_9 ?_
  refine j_iload_n (pc := 7) X dX9_dropName_7 rfl ?_
  obtain ⟨p2, h1, hf⟩ := kB hf
  refine j_callW (pc := 8) X Y (c_X9_drops hI N C 1 554 9 a1 h1) gX9_dropName_X9_drops rfl ⟨rfl, rfl⟩ rfl hd_X9_drops ⟨(Nat.le_of_ble_eq_true rfl), (Nat.le_of_ble_eq_true rfl)⟩ wm0 rfl rfl rfl (Nat.le_of_ble_eq_true rfl) rfl dX9_dropName_8 ?_
  exact j_retW hR dX9_dropName_11 hf
theorem c_X9_dropName {l : Launch} {D : va_G} {cI cS : ClassId} {am : Nat → Nat} (hI : kInj 11 am) (N : Nat) (C : kS) (a1 : Int32) {r : Int32} {Cr : kS} (hf : f_X9_dropName N C a1 = some (r, Cr)) : mW l yX9_dropName wsX9_dropName rm_X9_dropName D cI cS (WM cI am) (kAd 11 am) C [.ref (am 0), .int a1] r Cr :=
  mW.of (by decide) rfl rfl (Nat.le_of_ble_eq_true rfl) (WM_D hI) (fun g X Y hR => t_X9_dropName X hI Y hR N C a1  hf)
abbrev rm_X9_isText : Room := { frames := 0, cells := 0, slots := 0, locals := 0 }
theorem lk_X9_isText_0 : Cond.fieldLink RX9 7 "BlackBarsModel" "s" "[I" ∈ wsX9_isText := List.mem_of_getElem? (i := 1) rfl
theorem iw_X9_isText_X9 : ∀ w ∈ wsX90, w ∈ wsX9_isText := fun _ h => List.mem_cons_of_mem _ (List.mem_append_right _ h)
theorem lk_X9_isText_1 : Cond.fieldLink RX9 48 "BlackBarsModel" "typed" "I" ∈ wsX9_isText := List.mem_of_getElem? (i := 2) rfl
theorem lk_X9_isText_2 : Cond.fieldLink RX9 16 "BlackBarsModel" "text" "[I" ∈ wsX9_isText := List.mem_of_getElem? (i := 3) rfl
def lp_X9_isText_21 (N : Nat) (C : kS) (a1 : Int32) (k69_4 : Int32 → Option (Int32)) : Nat → Int32 → Int32 → Option (Int32)
  | 0, _, _ => none
  | n + 1, x6, x7 => gIn a1 642 (if (C 1 a1.toNatClampNeg) ≤ x7 then k69_4 x6 else if x6 = 0 then k69_4 x6 else gIn ((a1 + 1) + x7) 642 (gIn x7 200 (jn (fun (t13 : Int32) => lp_X9_isText_21 N C a1 k69_4 n t13 (x7 + 1)) (fun j62_13 => if (C 1 ((a1 + 1) + x7).toNatClampNeg) = ((C 3 x7.toNatClampNeg) - 97) then j62_13 1 else j62_13 0))))
def f_X9_isText (N : Nat) (C : kS) (a1 : Int32) : Option (Int32) := gIn a1 642 (jn (fun (t2 : Int32) => jn (fun (x4 : Int32) => some (x4 &&& 1)) (fun k69_4 => lp_X9_isText_21 N C a1 k69_4 N t2 0)) (fun j18_2 => if (C 1 a1.toNatClampNeg) = (C 0 4) then j18_2 1 else j18_2 0))
theorem hd_X9_isText : kHd yX9_isText 1 := by decide +kernel
set_option maxHeartbeats 4000000 in
set_option maxRecDepth 100000 in
theorem lt_X9_isText_21 {g : kG} {cI cS : ClassId} {am : Nat → Nat} {C : kS} (X : Kx g cI cS cX9_isText RX9 wsX9_isText 4 rm_X9_isText) {r : Int32} (hR : kRI g (WM cI am) 4 cX9_isText .boolean C r) (N : Nat) (a1 : Int32)  (k69_4 : Int32 → Option (Int32)) (hk69_4 : ∀ (x4 : Int32), k69_4 x4 = some r → J g (WM cI am) 4 C 69 [some (.ref (am 0)), some (.int a1), some (.int x4), none] []) : ∀ (n : Nat) (x6 : Int32) (x7 : Int32), lp_X9_isText_21 N C a1 k69_4 n x6 x7 = some r → J g (WM cI am) 4 C 21 [some (.ref (am 0)), some (.int a1), some (.int x6), some (.int x7)] [] := by
  intro n
  induction n with
  | zero =>
    intro x6 x7 hf
    rw [lp_X9_isText_21] at hf
    cases hf
  | succ n ih =>
    intro x6 x7 hf
    rw [lp_X9_isText_21] at hf
    refine j_iload_n (pc := 21) X dX9_isText_21 rfl ?_
    refine j_aload_n (pc := 22) X dX9_isText_22 rfl ?_
    refine j_get (pc := 23) X iw_X9_isText_X9 wm0 rfl 0 (Nat.le_of_ble_eq_true rfl) lk_X9_isText_0 (v := .ref (am 1)) rfl dX9_isText_23 ?_
    refine j_iload_n (pc := 26) X dX9_isText_26 rfl ?_
    obtain ⟨b8, hf⟩ := gIn_s hf
    refine j_iald (pc := 27) X wm1 b8 dX9_isText_27 ?_
    refine j_icmp_ge (tgt := 69) (pc := 28) X dX9_isText_28 rfl (fun c9 => ?_) (fun c9 => ?_)
    · have hf := kT c9 hf
      refine j_weak (lv' := [some (.ref (am 0)), some (.int a1), some (.int x6), none]) (And.intro rfl (And.intro rfl (And.intro rfl trivial))) ?_
      exact hk69_4 _ hf
    · have hf := kF c9 hf
      refine j_iload_n (pc := 31) X dX9_isText_31 rfl ?_
      refine j_if_eq (tgt := 69) (pc := 32) X dX9_isText_32 rfl (fun c10 => ?_) (fun c10 => ?_)
      · have hf := kT c10 hf
        refine j_weak (lv' := [some (.ref (am 0)), some (.int a1), some (.int x6), none]) (And.intro rfl (And.intro rfl (And.intro rfl trivial))) ?_
        exact hk69_4 _ hf
      · have hf := kF c10 hf
        refine j_aload_n (pc := 35) X dX9_isText_35 rfl ?_
        refine j_get (pc := 36) X iw_X9_isText_X9 wm0 rfl 0 (Nat.le_of_ble_eq_true rfl) lk_X9_isText_0 (v := .ref (am 1)) rfl dX9_isText_36 ?_
        refine j_iload_n (pc := 39) X dX9_isText_39 rfl ?_
        refine j_iconst (pc := 40) X dX9_isText_40 kc_1 ?_
        refine j_iadd (pc := 41) X dX9_isText_41 ?_
        refine j_iload_n (pc := 42) X dX9_isText_42 rfl ?_
        refine j_iadd (pc := 43) X dX9_isText_43 ?_
        obtain ⟨b11, hf⟩ := gIn_s hf
        refine j_iald (pc := 44) X wm1 b11 dX9_isText_44 ?_
        refine j_aload_n (pc := 45) X dX9_isText_45 rfl ?_
        refine j_get (pc := 46) X iw_X9_isText_X9 wm0 rfl 3 (Nat.le_of_ble_eq_true rfl) lk_X9_isText_2 (v := .ref (am 3)) rfl dX9_isText_46 ?_
        refine j_iload_n (pc := 49) X dX9_isText_49 rfl ?_
        obtain ⟨b12, hf⟩ := gIn_s hf
        refine j_iald (pc := 50) X wm3 b12 dX9_isText_50 ?_
        refine j_bipush (pc := 51) X dX9_isText_51 kb_97 ?_
        refine j_isub (pc := 53) X dX9_isText_53 ?_
        obtain ⟨j62_13, ej62_13, hf⟩ := jn_s hf
        have hj62_13 : ∀ (t13 : Int32), j62_13 t13 = some r → J g (WM cI am) 4 C 62 [some (.ref (am 0)), some (.int a1), some (.int x6), some (.int x7)] [.int t13] := by
          intro t13 hf
          have hf := jE1 ej62_13 hf
          refine j_istore_n (pc := 62) X dX9_isText_62 (Nat.le_of_ble_eq_true rfl) (lv' := [some (.ref (am 0)), some (.int a1), some (.int t13), some (.int x7)]) rfl ?_
          refine j_iinc (pc := 63) X dX9_isText_63 rfl (v := x7 + 1) (by rw [kc_1]) (Nat.le_of_ble_eq_true rfl) (lv' := [some (.ref (am 0)), some (.int a1), some (.int t13), some (.int (x7 + 1))]) rfl ?_
          refine j_goto (tgt := 21) (pc := 66) X dX9_isText_66 rfl ?_
          exact ih _ _ hf
        refine j_icmp_ne (tgt := 61) (pc := 54) X dX9_isText_54 rfl (fun c15 => ?_) (fun c15 => ?_)
        · have hf := kF c15 hf
          refine j_iconst (pc := 61) X dX9_isText_61 kc_0 ?_
          exact hj62_13 _ hf
        · have hf := kT c15 hf
          refine j_iconst (pc := 57) X dX9_isText_57 kc_1 ?_
          refine j_goto (tgt := 62) (pc := 58) X dX9_isText_58 rfl ?_
          exact hj62_13 _ hf
set_option maxHeartbeats 4000000 in
set_option maxRecDepth 100000 in
theorem t_X9_isText {g : kG} {cI cS : ClassId} {am : Nat → Nat} {C : kS} (X : Kx g cI cS cX9_isText RX9 wsX9_isText 4 rm_X9_isText) {r : Int32} (hR : kRI g (WM cI am) 4 cX9_isText .boolean C r) (N : Nat) (a1 : Int32)  (hf : f_X9_isText N C a1 = some r) : J g (WM cI am) 4 C 0 [some (.ref (am 0)), some (.int a1), none, none] [] := by
  unfold f_X9_isText at hf
  refine j_aload_n (pc := 0) X dX9_isText_0 rfl ?_
  refine j_get (pc := 1) X iw_X9_isText_X9 wm0 rfl 0 (Nat.le_of_ble_eq_true rfl) lk_X9_isText_0 (v := .ref (am 1)) rfl dX9_isText_1 ?_
  refine j_iload_n (pc := 4) X dX9_isText_4 rfl ?_
  obtain ⟨b1, hf⟩ := gIn_s hf
  refine j_iald (pc := 5) X wm1 b1 dX9_isText_5 ?_
  refine j_aload_n (pc := 6) X dX9_isText_6 rfl ?_
  refine j_get (pc := 7) X iw_X9_isText_X9 wm0 rfl 4 (Nat.le_of_ble_eq_true rfl) lk_X9_isText_1 (v := .int (C 0 4)) rfl dX9_isText_7 ?_
  obtain ⟨j18_2, ej18_2, hf⟩ := jn_s hf
  have hj18_2 : ∀ (t2 : Int32), j18_2 t2 = some r → J g (WM cI am) 4 C 18 [some (.ref (am 0)), some (.int a1), none, none] [.int t2] := by
    intro t2 hf
    have hf := jE1 ej18_2 hf
    refine j_istore_n (pc := 18) X dX9_isText_18 (Nat.le_of_ble_eq_true rfl) (lv' := [some (.ref (am 0)), some (.int a1), some (.int t2), none]) rfl ?_
    refine j_iconst (pc := 19) X dX9_isText_19 kc_0 ?_
    refine j_istore_n (pc := 20) X dX9_isText_20 (Nat.le_of_ble_eq_true rfl) (lv' := [some (.ref (am 0)), some (.int a1), some (.int t2), some (.int 0)]) rfl ?_
    obtain ⟨k69_4, ek69_4, hf⟩ := jn_s hf
    have hk69_4 : ∀ (x4 : Int32), k69_4 x4 = some r → J g (WM cI am) 4 C 69 [some (.ref (am 0)), some (.int a1), some (.int x4), none] [] := by
      intro x4 hf
      have hf := jE1 ek69_4 hf
      refine j_iload_n (pc := 69) X dX9_isText_69 rfl ?_
      exact j_retB hR dX9_isText_70 hf
    exact lt_X9_isText_21 X hR N a1   k69_4 hk69_4 N _ _ hf
  refine j_icmp_ne (tgt := 17) (pc := 10) X dX9_isText_10 rfl (fun c16 => ?_) (fun c16 => ?_)
  · have hf := kF c16 hf
    refine j_iconst (pc := 17) X dX9_isText_17 kc_0 ?_
    exact hj18_2 _ hf
  · have hf := kT c16 hf
    refine j_iconst (pc := 13) X dX9_isText_13 kc_1 ?_
    refine j_goto (tgt := 18) (pc := 14) X dX9_isText_14 rfl ?_
    exact hj18_2 _ hf
theorem c_X9_isText {l : Launch} {D : va_G} {cI cS : ClassId} {am : Nat → Nat} (N : Nat) (C : kS) (a1 : Int32) {r : Int32} (hf : f_X9_isText N C a1 = some r) : mI l yX9_isText wsX9_isText rm_X9_isText D cI cS (WM cI am) C [.ref (am 0), .int a1] r :=
  mI.of (by decide) rfl rfl (Nat.le_of_ble_eq_true rfl) (fun g X hR => t_X9_isText X  hR N a1  hf)
abbrev rm_X9_makes : Room := { frames := 3, cells := 0, slots := 0, locals := 65 }
theorem lk_X9_makes_0 : Cond.fieldLink RX9 7 "BlackBarsModel" "s" "[I" ∈ wsX9_makes := List.mem_of_getElem? (i := 1) rfl
theorem iw_X9_makes_X9 : ∀ w ∈ wsX90, w ∈ wsX9_makes := fun _ h => List.mem_cons_of_mem _ (List.mem_append_right _ h)
theorem lk_X9_makes_1 : Cond.fieldLink RX9 48 "BlackBarsModel" "typed" "I" ∈ wsX9_makes := List.mem_of_getElem? (i := 2) rfl
theorem lk_X9_makes_2 : Cond.fieldLink RX9 16 "BlackBarsModel" "text" "[I" ∈ wsX9_makes := List.mem_of_getElem? (i := 3) rfl
def lp_X9_makes_106 (N : Nat) (a1 : Int32) (a2 : Int32) (a3 : Int32) (C9 : kS) (k143_13 : kS → Option (Int32 × kS)) : Nat → Int32 → kS → Option (Int32 × kS)
  | 0, _, _ => none
  | n + 1, x19, C20 => if (C20 0 4) ≤ x19 then k143_13 C20 else gIn x19 200 (gIn (((a2 + (a3 * (C9 1 a1.toNatClampNeg))) + 1) + x19) 642 (jn (up1 C20 1 (upd (C20 1) ((((a2 + (a3 * (C9 1 a1.toNatClampNeg))) + 1) + x19).toNatClampNeg) ((C20 3 x19.toNatClampNeg) - 97))) (fun C24 : kS => lp_X9_makes_106 N a1 a2 a3 C9 k143_13 n (x19 + 1) C24)))
def lp_X9_makes_12 (N : Nat) (C : kS) (a1 : Int32) (a2 : Int32) (a3 : Int32) (k54_3 : Int32 → Option (Int32 × kS)) : Nat → Int32 → Int32 → Option (Int32 × kS)
  | 0, _, _ => none
  | n + 1, x25, x26 => gIn a1 642 (if (C 1 a1.toNatClampNeg) ≤ x26 then k54_3 x25 else if x25 = 0 then k54_3 x25 else (f_X9_isText N C (a2 + (a3 * x26))).bind (fun r31 => jn (fun (t32 : Int32) => lp_X9_makes_12 N C a1 a2 a3 k54_3 n t32 (x26 + 1)) (fun j46_32 => if r31 = 0 then j46_32 1 else j46_32 0)))
def f_X9_makes (N : Nat) (C : kS) (a1 : Int32) (a2 : Int32) (a3 : Int32) (a4 : Int32) : Option (Int32 × kS) := (f_X9_areLetters N C (a3 - 1)).bind (fun r2 => jn (fun (x3 : Int32) => if x3 = 0 then some ((-12), C) else gIn a1 642 (if (C 1 a1.toNatClampNeg) = a4 then some ((-13), C) else (f_X9_records N C).bind (fun C9 => gIn a1 642 (gIn (a2 + (a3 * (C9 1 a1.toNatClampNeg))) 642 (jn (up1 C9 1 (upd (C9 1) ((a2 + (a3 * (C9 1 a1.toNatClampNeg))).toNatClampNeg) (C9 0 4))) (fun C12 : kS => jn (fun (C13 : kS) => gIn a1 642 (gIn a1 642 (jn (up1 C13 1 (upd (C13 1) (a1.toNatClampNeg) ((C13 1 a1.toNatClampNeg) + 1))) (fun C17 : kS => gIn a1 642 (some ((C17 1 a1.toNatClampNeg) - 1, C17)))))) (fun k143_13 => lp_X9_makes_106 N a1 a2 a3 C9 k143_13 N 0 C12))))))) (fun k54_3 => lp_X9_makes_12 N C a1 a2 a3 k54_3 N r2 0))
theorem hd_X9_makes : kHd yX9_makes 4 := by decide +kernel
set_option maxHeartbeats 4000000 in
set_option maxRecDepth 100000 in
theorem lt_X9_makes_106 {g : kG} {cI cS : ClassId} {am : Nat → Nat} (X : Kx g cI cS cX9_makes RX9 wsX9_makes 8 rm_X9_makes) {r : Int32} {Cr : kS} (hI : kInj 11 am) (Y : Kw g (WM cI am) (kAd 11 am)) (hR : kRI g (WM cI am) 8 cX9_makes .int Cr r) (N : Nat) (a1 : Int32) (a2 : Int32) (a3 : Int32) (a4 : Int32) (x3 : Int32) (C9 : kS)  (k143_13 : kS → Option (Int32 × kS)) (hk143_13 : ∀ (C13 : kS), k143_13 C13 = some (r, Cr) → J g (WM cI am) 8 C13 143 [some (.ref (am 0)), some (.int a1), some (.int a2), some (.int a3), some (.int a4), some (.int x3), some (.int (a2 + (a3 * (C9 1 a1.toNatClampNeg)))), none] []) : ∀ (n : Nat) (x19 : Int32) (C20 : kS), lp_X9_makes_106 N a1 a2 a3 C9 k143_13 n x19 C20 = some (r, Cr) → J g (WM cI am) 8 C20 106 [some (.ref (am 0)), some (.int a1), some (.int a2), some (.int a3), some (.int a4), some (.int x3), some (.int (a2 + (a3 * (C9 1 a1.toNatClampNeg)))), some (.int x19)] [] := by
  intro n
  induction n with
  | zero =>
    intro x19 C20 hf
    rw [lp_X9_makes_106] at hf
    cases hf
  | succ n ih =>
    intro x19 C20 hf
    rw [lp_X9_makes_106] at hf
    refine j_iload (pc := 106) X dX9_makes_106 rfl ?_
    refine j_aload_n (pc := 108) X dX9_makes_108 rfl ?_
    refine j_get (pc := 109) X iw_X9_makes_X9 wm0 rfl 4 (Nat.le_of_ble_eq_true rfl) lk_X9_makes_1 (v := .int (C20 0 4)) rfl dX9_makes_109 ?_
    refine j_icmp_ge (tgt := 143) (pc := 112) X dX9_makes_112 rfl (fun c21 => ?_) (fun c21 => ?_)
    · have hf := kT c21 hf
      refine j_weak (lv' := [some (.ref (am 0)), some (.int a1), some (.int a2), some (.int a3), some (.int a4), some (.int x3), some (.int (a2 + (a3 * (C9 1 a1.toNatClampNeg)))), none]) (And.intro rfl (And.intro rfl (And.intro rfl (And.intro rfl (And.intro rfl (And.intro rfl (And.intro rfl trivial))))))) ?_
      exact hk143_13 _ hf
    · have hf := kF c21 hf
      refine j_aload_n (pc := 115) X dX9_makes_115 rfl ?_
      refine j_get (pc := 116) X iw_X9_makes_X9 wm0 rfl 0 (Nat.le_of_ble_eq_true rfl) lk_X9_makes_0 (v := .ref (am 1)) rfl dX9_makes_116 ?_
      refine j_iload (pc := 119) X dX9_makes_119 rfl ?_
      refine j_iconst (pc := 121) X dX9_makes_121 kc_1 ?_
      refine j_iadd (pc := 122) X dX9_makes_122 ?_
      refine j_iload (pc := 123) X dX9_makes_123 rfl ?_
      refine j_iadd (pc := 125) X dX9_makes_125 ?_
      refine j_aload_n (pc := 126) X dX9_makes_126 rfl ?_
      refine j_get (pc := 127) X iw_X9_makes_X9 wm0 rfl 3 (Nat.le_of_ble_eq_true rfl) lk_X9_makes_2 (v := .ref (am 3)) rfl dX9_makes_127 ?_
      refine j_iload (pc := 130) X dX9_makes_130 rfl ?_
      obtain ⟨b22, hf⟩ := gIn_s hf
      refine j_iald (pc := 132) X wm3 b22 dX9_makes_132 ?_
      refine j_bipush (pc := 133) X dX9_makes_133 kb_97 ?_
      refine j_isub (pc := 135) X dX9_makes_135 ?_
      obtain ⟨b23, hf⟩ := gIn_s hf
      obtain ⟨C24, eC24, hf⟩ := jn_s hf
      refine j_iast (C' := C24) (pc := 136) X Y wm1 b23 dX9_makes_136 (by rw [eC24]; exact sm1 _) ?_
      refine j_iinc (pc := 137) X dX9_makes_137 rfl (v := x19 + 1) (by rw [kc_1]) (Nat.le_of_ble_eq_true rfl) (lv' := [some (.ref (am 0)), some (.int a1), some (.int a2), some (.int a3), some (.int a4), some (.int x3), some (.int (a2 + (a3 * (C9 1 a1.toNatClampNeg)))), some (.int (x19 + 1))]) rfl ?_
      refine j_goto (tgt := 106) (pc := 140) X dX9_makes_140 rfl ?_
      exact ih _ _ hf
set_option maxHeartbeats 4000000 in
set_option maxRecDepth 100000 in
theorem lt_X9_makes_12 {g : kG} {cI cS : ClassId} {am : Nat → Nat} (X : Kx g cI cS cX9_makes RX9 wsX9_makes 8 rm_X9_makes) {r : Int32} {Cr : kS} (hI : kInj 11 am) (Y : Kw g (WM cI am) (kAd 11 am)) (hR : kRI g (WM cI am) 8 cX9_makes .int Cr r) (N : Nat) (C : kS) (a1 : Int32) (a2 : Int32) (a3 : Int32) (a4 : Int32)  (k54_3 : Int32 → Option (Int32 × kS)) (hk54_3 : ∀ (x3 : Int32), k54_3 x3 = some (r, Cr) → J g (WM cI am) 8 C 54 [some (.ref (am 0)), some (.int a1), some (.int a2), some (.int a3), some (.int a4), some (.int x3), none, none] []) : ∀ (n : Nat) (x25 : Int32) (x26 : Int32), lp_X9_makes_12 N C a1 a2 a3 k54_3 n x25 x26 = some (r, Cr) → J g (WM cI am) 8 C 12 [some (.ref (am 0)), some (.int a1), some (.int a2), some (.int a3), some (.int a4), some (.int x25), some (.int x26), none] [] := by
  intro n
  induction n with
  | zero =>
    intro x25 x26 hf
    rw [lp_X9_makes_12] at hf
    cases hf
  | succ n ih =>
    intro x25 x26 hf
    rw [lp_X9_makes_12] at hf
    refine j_iload (pc := 12) X dX9_makes_12 rfl ?_
    refine j_aload_n (pc := 14) X dX9_makes_14 rfl ?_
    refine j_get (pc := 15) X iw_X9_makes_X9 wm0 rfl 0 (Nat.le_of_ble_eq_true rfl) lk_X9_makes_0 (v := .ref (am 1)) rfl dX9_makes_15 ?_
    refine j_iload_n (pc := 18) X dX9_makes_18 rfl ?_
    obtain ⟨b27, hf⟩ := gIn_s hf
    refine j_iald (pc := 19) X wm1 b27 dX9_makes_19 ?_
    refine j_icmp_ge (tgt := 54) (pc := 20) X dX9_makes_20 rfl (fun c28 => ?_) (fun c28 => ?_)
    · have hf := kT c28 hf
      refine j_weak (lv' := [some (.ref (am 0)), some (.int a1), some (.int a2), some (.int a3), some (.int a4), some (.int x25), none, none]) (And.intro rfl (And.intro rfl (And.intro rfl (And.intro rfl (And.intro rfl (And.intro rfl trivial)))))) ?_
      exact hk54_3 _ hf
    · have hf := kF c28 hf
      refine j_iload (pc := 23) X dX9_makes_23 rfl ?_
      refine j_if_eq (tgt := 54) (pc := 25) X dX9_makes_25 rfl (fun c29 => ?_) (fun c29 => ?_)
      · have hf := kT c29 hf
        refine j_weak (lv' := [some (.ref (am 0)), some (.int a1), some (.int a2), some (.int a3), some (.int a4), some (.int x25), none, none]) (And.intro rfl (And.intro rfl (And.intro rfl (And.intro rfl (And.intro rfl (And.intro rfl trivial)))))) ?_
        exact hk54_3 _ hf
      · have hf := kF c29 hf
        refine j_aload_n (pc := 28) X dX9_makes_28 rfl ?_
        refine j_iload_n (pc := 29) X dX9_makes_29 rfl ?_
        refine j_iload_n (pc := 30) X dX9_makes_30 rfl ?_
        refine j_iload (pc := 31) X dX9_makes_31 rfl ?_
        refine j_imul (pc := 33) X dX9_makes_33 ?_
        refine j_iadd (pc := 34) X dX9_makes_34 ?_
        obtain ⟨r31, h30, hf⟩ := kB hf
        refine j_callI (pc := 35) X (c_X9_isText N C (a2 + (a3 * x26)) h30) gX9_makes_X9_isText rfl ⟨rfl, rfl⟩ rfl hd_X9_isText ⟨(Nat.le_of_ble_eq_true rfl), (Nat.le_of_ble_eq_true rfl)⟩ wm0 rfl rfl rfl (Nat.le_of_ble_eq_true rfl) rfl dX9_makes_35 ?_
        obtain ⟨j46_32, ej46_32, hf⟩ := jn_s hf
        have hj46_32 : ∀ (t32 : Int32), j46_32 t32 = some (r, Cr) → J g (WM cI am) 8 C 46 [some (.ref (am 0)), some (.int a1), some (.int a2), some (.int a3), some (.int a4), some (.int x25), some (.int x26), none] [.int t32] := by
          intro t32 hf
          have hf := jE1 ej46_32 hf
          refine j_istore (pc := 46) X dX9_makes_46 (Nat.le_of_ble_eq_true rfl) (lv' := [some (.ref (am 0)), some (.int a1), some (.int a2), some (.int a3), some (.int a4), some (.int t32), some (.int x26), none]) rfl ?_
          refine j_iinc (pc := 48) X dX9_makes_48 rfl (v := x26 + 1) (by rw [kc_1]) (Nat.le_of_ble_eq_true rfl) (lv' := [some (.ref (am 0)), some (.int a1), some (.int a2), some (.int a3), some (.int a4), some (.int t32), some (.int (x26 + 1)), none]) rfl ?_
          refine j_goto (tgt := 12) (pc := 51) X dX9_makes_51 rfl ?_
          exact ih _ _ hf
        refine j_if_ne (tgt := 45) (pc := 38) X dX9_makes_38 rfl (fun c34 => ?_) (fun c34 => ?_)
        · have hf := kF c34 hf
          refine j_iconst (pc := 45) X dX9_makes_45 kc_0 ?_
          exact hj46_32 _ hf
        · have hf := kT c34 hf
          refine j_iconst (pc := 41) X dX9_makes_41 kc_1 ?_
          refine j_goto (tgt := 46) (pc := 42) X dX9_makes_42 rfl ?_
          exact hj46_32 _ hf
set_option maxHeartbeats 4000000 in
set_option maxRecDepth 100000 in
theorem t_X9_makes {g : kG} {cI cS : ClassId} {am : Nat → Nat} (X : Kx g cI cS cX9_makes RX9 wsX9_makes 8 rm_X9_makes) {r : Int32} {Cr : kS} (hI : kInj 11 am) (Y : Kw g (WM cI am) (kAd 11 am)) (hR : kRI g (WM cI am) 8 cX9_makes .int Cr r) (N : Nat) (C : kS) (a1 : Int32) (a2 : Int32) (a3 : Int32) (a4 : Int32)  (hf : f_X9_makes N C a1 a2 a3 a4 = some (r, Cr)) : J g (WM cI am) 8 C 0 [some (.ref (am 0)), some (.int a1), some (.int a2), some (.int a3), some (.int a4), none, none, none] [] := by
  unfold f_X9_makes at hf
  refine j_aload_n (pc := 0) X dX9_makes_0 rfl ?_
  refine j_iload_n (pc := 1) X dX9_makes_1 rfl ?_
  refine j_iconst (pc := 2) X dX9_makes_2 kc_1 ?_
  refine j_isub (pc := 3) X dX9_makes_3 ?_
  obtain ⟨r2, h1, hf⟩ := kB hf
  refine j_callI (pc := 4) X (c_X9_areLetters N C (a3 - 1) h1) gX9_makes_X9_areLetters rfl ⟨rfl, rfl⟩ rfl hd_X9_areLetters ⟨(Nat.le_of_ble_eq_true rfl), (Nat.le_of_ble_eq_true rfl)⟩ wm0 rfl rfl rfl (Nat.le_of_ble_eq_true rfl) rfl dX9_makes_4 ?_
  refine j_istore (pc := 7) X dX9_makes_7 (Nat.le_of_ble_eq_true rfl) (lv' := [some (.ref (am 0)), some (.int a1), some (.int a2), some (.int a3), some (.int a4), some (.int r2), none, none]) rfl ?_
  refine j_iconst (pc := 9) X dX9_makes_9 kc_0 ?_
  refine j_istore (pc := 10) X dX9_makes_10 (Nat.le_of_ble_eq_true rfl) (lv' := [some (.ref (am 0)), some (.int a1), some (.int a2), some (.int a3), some (.int a4), some (.int r2), some (.int 0), none]) rfl ?_
  obtain ⟨k54_3, ek54_3, hf⟩ := jn_s hf
  have hk54_3 : ∀ (x3 : Int32), k54_3 x3 = some (r, Cr) → J g (WM cI am) 8 C 54 [some (.ref (am 0)), some (.int a1), some (.int a2), some (.int a3), some (.int a4), some (.int x3), none, none] [] := by
    intro x3 hf
    have hf := jE1 ek54_3 hf
    refine j_iload (pc := 54) X dX9_makes_54 rfl ?_
    refine j_if_ne (tgt := 62) (pc := 56) X dX9_makes_56 rfl (fun c5 => ?_) (fun c5 => ?_)
    · have hf := kF c5 hf
      refine j_aload_n (pc := 62) X dX9_makes_62 rfl ?_
      refine j_get (pc := 63) X iw_X9_makes_X9 wm0 rfl 0 (Nat.le_of_ble_eq_true rfl) lk_X9_makes_0 (v := .ref (am 1)) rfl dX9_makes_63 ?_
      refine j_iload_n (pc := 66) X dX9_makes_66 rfl ?_
      obtain ⟨b6, hf⟩ := gIn_s hf
      refine j_iald (pc := 67) X wm1 b6 dX9_makes_67 ?_
      refine j_iload (pc := 68) X dX9_makes_68 rfl ?_
      refine j_icmp_ne (tgt := 76) (pc := 70) X dX9_makes_70 rfl (fun c7 => ?_) (fun c7 => ?_)
      · have hf := kF c7 hf
        refine j_aload_n (pc := 76) X dX9_makes_76 rfl ?_
        obtain ⟨C9, h8, hf⟩ := kB hf
        refine j_callV (pc := 77) X Y (c_X9_records hI N C  h8) gX9_makes_X9_records rfl ⟨rfl, rfl⟩ rfl hd_X9_records ⟨(Nat.le_of_ble_eq_true rfl), (Nat.le_of_ble_eq_true rfl)⟩ wm0 rfl rfl rfl (Nat.le_of_ble_eq_true rfl) rfl dX9_makes_77 ?_
        refine j_iload_n (pc := 80) X dX9_makes_80 rfl ?_
        refine j_iload_n (pc := 81) X dX9_makes_81 rfl ?_
        refine j_aload_n (pc := 82) X dX9_makes_82 rfl ?_
        refine j_get (pc := 83) X iw_X9_makes_X9 wm0 rfl 0 (Nat.le_of_ble_eq_true rfl) lk_X9_makes_0 (v := .ref (am 1)) rfl dX9_makes_83 ?_
        refine j_iload_n (pc := 86) X dX9_makes_86 rfl ?_
        obtain ⟨b10, hf⟩ := gIn_s hf
        refine j_iald (pc := 87) X wm1 b10 dX9_makes_87 ?_
        refine j_imul (pc := 88) X dX9_makes_88 ?_
        refine j_iadd (pc := 89) X dX9_makes_89 ?_
        refine j_istore (pc := 90) X dX9_makes_90 (Nat.le_of_ble_eq_true rfl) (lv' := [some (.ref (am 0)), some (.int a1), some (.int a2), some (.int a3), some (.int a4), some (.int x3), some (.int (a2 + (a3 * (C9 1 a1.toNatClampNeg)))), none]) rfl ?_
        refine j_aload_n (pc := 92) X dX9_makes_92 rfl ?_
        refine j_get (pc := 93) X iw_X9_makes_X9 wm0 rfl 0 (Nat.le_of_ble_eq_true rfl) lk_X9_makes_0 (v := .ref (am 1)) rfl dX9_makes_93 ?_
        refine j_iload (pc := 96) X dX9_makes_96 rfl ?_
        refine j_aload_n (pc := 98) X dX9_makes_98 rfl ?_
        refine j_get (pc := 99) X iw_X9_makes_X9 wm0 rfl 4 (Nat.le_of_ble_eq_true rfl) lk_X9_makes_1 (v := .int (C9 0 4)) rfl dX9_makes_99 ?_
        obtain ⟨b11, hf⟩ := gIn_s hf
        obtain ⟨C12, eC12, hf⟩ := jn_s hf
        refine j_iast (C' := C12) (pc := 102) X Y wm1 b11 dX9_makes_102 (by rw [eC12]; exact sm1 _) ?_
        refine j_iconst (pc := 103) X dX9_makes_103 kc_0 ?_
        refine j_istore (pc := 104) X dX9_makes_104 (Nat.le_of_ble_eq_true rfl) (lv' := [some (.ref (am 0)), some (.int a1), some (.int a2), some (.int a3), some (.int a4), some (.int x3), some (.int (a2 + (a3 * (C9 1 a1.toNatClampNeg)))), some (.int 0)]) rfl ?_
        obtain ⟨k143_13, ek143_13, hf⟩ := jn_s hf
        have hk143_13 : ∀ (C13 : kS), k143_13 C13 = some (r, Cr) → J g (WM cI am) 8 C13 143 [some (.ref (am 0)), some (.int a1), some (.int a2), some (.int a3), some (.int a4), some (.int x3), some (.int (a2 + (a3 * (C9 1 a1.toNatClampNeg)))), none] [] := by
          intro C13 hf
          have hf := jE1 ek143_13 hf
          refine j_aload_n (pc := 143) X dX9_makes_143 rfl ?_
          refine j_get (pc := 144) X iw_X9_makes_X9 wm0 rfl 0 (Nat.le_of_ble_eq_true rfl) lk_X9_makes_0 (v := .ref (am 1)) rfl dX9_makes_144 ?_
          refine j_iload_n (pc := 147) X dX9_makes_147 rfl ?_
          refine j_dup2 (pc := 148) X dX9_makes_148 rfl rfl ?_
          obtain ⟨b15, hf⟩ := gIn_s hf
          refine j_iald (pc := 149) X wm1 b15 dX9_makes_149 ?_
          refine j_iconst (pc := 150) X dX9_makes_150 kc_1 ?_
          refine j_iadd (pc := 151) X dX9_makes_151 ?_
          obtain ⟨b16, hf⟩ := gIn_s hf
          obtain ⟨C17, eC17, hf⟩ := jn_s hf
          refine j_iast (C' := C17) (pc := 152) X Y wm1 b16 dX9_makes_152 (by rw [eC17]; exact sm1 _) ?_
          refine j_aload_n (pc := 153) X dX9_makes_153 rfl ?_
          refine j_get (pc := 154) X iw_X9_makes_X9 wm0 rfl 0 (Nat.le_of_ble_eq_true rfl) lk_X9_makes_0 (v := .ref (am 1)) rfl dX9_makes_154 ?_
          refine j_iload_n (pc := 157) X dX9_makes_157 rfl ?_
          obtain ⟨b18, hf⟩ := gIn_s hf
          refine j_iald (pc := 158) X wm1 b18 dX9_makes_158 ?_
          refine j_iconst (pc := 159) X dX9_makes_159 kc_1 ?_
          refine j_isub (pc := 160) X dX9_makes_160 ?_
          exact j_retW hR dX9_makes_161 hf
        exact lt_X9_makes_106 X hI Y hR N a1 a2 a3 a4 x3 C9       k143_13 hk143_13 N _ _ hf
      · have hf := kT c7 hf
        refine j_bipush (pc := 73) X dX9_makes_73 kb_m13 ?_
        exact j_retW hR dX9_makes_75 hf
    · have hf := kT c5 hf
      refine j_bipush (pc := 59) X dX9_makes_59 kb_m12 ?_
      exact j_retW hR dX9_makes_61 hf
  exact lt_X9_makes_12 X hI Y hR N C a1 a2 a3 a4      k54_3 hk54_3 N _ _ hf
theorem c_X9_makes {l : Launch} {D : va_G} {cI cS : ClassId} {am : Nat → Nat} (hI : kInj 11 am) (N : Nat) (C : kS) (a1 : Int32) (a2 : Int32) (a3 : Int32) (a4 : Int32) {r : Int32} {Cr : kS} (hf : f_X9_makes N C a1 a2 a3 a4 = some (r, Cr)) : mW l yX9_makes wsX9_makes rm_X9_makes D cI cS (WM cI am) (kAd 11 am) C [.ref (am 0), .int a1, .int a2, .int a3, .int a4] r Cr :=
  mW.of (by decide) rfl rfl (Nat.le_of_ble_eq_true rfl) (WM_D hI) (fun g X Y hR => t_X9_makes X hI Y hR N C a1 a2 a3 a4  hf)
abbrev rm_X9_ending : Room := { frames := 4, cells := 0, slots := 0, locals := 92 }
def f_X9_ending (N : Nat) (C : kS) : Option (Int32 × kS) := (f_X9_makes N C 2 626 4 4).bind (fun p2 => some (p2.1, p2.2))
theorem hd_X9_ending : kHd yX9_ending 0 := by decide +kernel
set_option maxHeartbeats 4000000 in
set_option maxRecDepth 100000 in
theorem t_X9_ending {g : kG} {cI cS : ClassId} {am : Nat → Nat} (X : Kx g cI cS cX9_ending RX9 wsX9_ending 1 rm_X9_ending) {r : Int32} {Cr : kS} (hI : kInj 11 am) (Y : Kw g (WM cI am) (kAd 11 am)) (hR : kRI g (WM cI am) 1 cX9_ending .int Cr r) (N : Nat) (C : kS)   (hf : f_X9_ending N C = some (r, Cr)) : J g (WM cI am) 1 C 0 [some (.ref (am 0))] [] := by
  unfold f_X9_ending at hf
  refine j_aload_n (pc := 0) X dX9_ending_0 rfl ?_
  refine j_iconst (pc := 1) X dX9_ending_1 kc_2 ?_
  refine j_sipush (pc := 2) X dX9_ending_2 ks_626 ?_
  refine j_iconst (pc := 5) X dX9_ending_5 kc_4 ?_
  refine j_iconst (pc := 6) X dX9_ending_6 kc_4 ?_
  obtain ⟨p2, h1, hf⟩ := kB hf
  refine j_callW (pc := 7) X Y (c_X9_makes hI N C 2 626 4 4 h1) gX9_ending_X9_makes rfl ⟨rfl, rfl⟩ rfl hd_X9_makes ⟨(Nat.le_of_ble_eq_true rfl), (Nat.le_of_ble_eq_true rfl)⟩ wm0 rfl rfl rfl (Nat.le_of_ble_eq_true rfl) rfl dX9_ending_7 ?_
  exact j_retW hR dX9_ending_10 hf
theorem c_X9_ending {l : Launch} {D : va_G} {cI cS : ClassId} {am : Nat → Nat} (hI : kInj 11 am) (N : Nat) (C : kS)  {r : Int32} {Cr : kS} (hf : f_X9_ending N C = some (r, Cr)) : mW l yX9_ending wsX9_ending rm_X9_ending D cI cS (WM cI am) (kAd 11 am) C [.ref (am 0)] r Cr :=
  mW.of (by decide) rfl rfl (Nat.le_of_ble_eq_true rfl) (WM_D hI) (fun g X Y hR => t_X9_ending X hI Y hR N C   hf)
