abbrev rm_L_acts : Room := { frames := 7, cells := 0, slots := 0, locals := 168 }
theorem lk_L_acts_0 : Cond.constant RL 43 (10000000) ∈ wsL_acts := List.mem_of_getElem? (i := 1) rfl
theorem hd_L_acts : kHd yL_acts 5 := by decide +kernel
set_option maxHeartbeats 4000000 in
set_option maxRecDepth 100000 in
theorem lt_L_acts_111 {g : kG} {cI cS cJ : ClassId} {ad al : Nat → Nat} (X : Kx g cI cS cL_acts RL wsL_acts 19 rm_L_acts) (hE : kE g.2.2.2.1 cJ g.1.2.2.2.2) (hA : g.2.2.1 = va_S (lwA ad al) g.1.2.2.2.2.heap) (hI : lwD ad al) {LV GV : Nat} (hZ : kZ (lwA ad al) LV GV g.1.2.2.2.2) (hD : ∀ z : kS × kS, va_D (fun _ => True) (WCL cI cS cJ ad al z)) {r : Int32} {pr : kS × kS} (hR : eI g 19 cL_acts .boolean (WCL cI cS cJ ad al pr) r) (N : Nat) (a4 : Int32) (r2 : Int32) (k239_15 : Int32 → kS × kS → Option (Int32 × (kS × kS))) (hk239_15 : ∀ (x14 : Int32) (p15 : kS × kS), k239_15 x14 p15 = some (r, pr) → JA g (WCL cI cS cJ ad al p15) 19 239 [some (.ref (ad 0)), some (.ref (al 0)), some (.ref (al 1)), some (.ref (al 2)), some (.int a4), some (.int r2), some (.int x14), none, none, none, none, none, none, none, none, none, none, none, none] []) : ∀ (n : Nat) (x26 : Int32) (x27 : Int32) (p28 : kS × kS), lp_L_acts_111 N r2 k239_15 n x26 x27 p28 = some (r, pr) → JA g (WCL cI cS cJ ad al p28) 19 111 [some (.ref (ad 0)), some (.ref (al 0)), some (.ref (al 1)), some (.ref (al 2)), some (.int a4), some (.int r2), some (.int x26), some (.int x27), none, none, none, none, none, none, none, none, none, none, none] [] := by
  intro n
  induction n with
  | zero =>
    intro x26 x27 p28 hf
    rw [lp_L_acts_111] at hf
    cases hf
  | succ n ih =>
    intro x26 x27 p28 hf
    rw [lp_L_acts_111] at hf
    refine j_iload (pc := 111) X dL_acts_111 rfl ?_
    refine j_aload_n (pc := 113) X dL_acts_113 rfl ?_
    refine j_iconst (pc := 114) X dL_acts_114 kcL_5 ?_
    obtain ⟨b29, hf⟩ := gIn_s hf
    refine a_iald (pc := 115) X wcl_0 b29 dL_acts_115 ?_
    refine j_icmp_ge (tgt := 239) (pc := 116) X dL_acts_116 rfl (fun c30 => ?_) (fun c30 => ?_)
    · have hf := kT c30 hf
      refine j_weak (lv' := [some (.ref (ad 0)), some (.ref (al 0)), some (.ref (al 1)), some (.ref (al 2)), some (.int a4), some (.int r2), some (.int x26), none, none, none, none, none, none, none, none, none, none, none, none]) (And.intro rfl (And.intro rfl (And.intro rfl (And.intro rfl (And.intro rfl (And.intro rfl (And.intro rfl trivial))))))) ?_
      exact hk239_15 _ _ hf
    · have hf := kF c30 hf
      refine j_iload (pc := 119) X dL_acts_119 rfl ?_
      refine j_bipush (pc := 121) X dL_acts_121 kbL_9 ?_
      obtain ⟨z31, hf⟩ := gNz_s hf
      refine j_idiv (pc := 123) X dL_acts_123 z31 ?_
      refine j_iconst (pc := 124) X dL_acts_124 kcL_5 ?_
      refine j_iload (pc := 125) X dL_acts_125 rfl ?_
      refine j_imul (pc := 127) X dL_acts_127 ?_
      refine j_iadd (pc := 128) X dL_acts_128 ?_
      refine j_bipush (pc := 129) X dL_acts_129 kbL_12 ?_
      obtain ⟨z32, hf⟩ := gNz_s hf
      refine j_irem (pc := 131) X dL_acts_131 z32 ?_
      obtain ⟨x33, ex33, hf⟩ := jn_s hf
      refine j_istore (pc := 132) X dL_acts_132 (Nat.le_of_ble_eq_true rfl) (lv' := [some (.ref (ad 0)), some (.ref (al 0)), some (.ref (al 1)), some (.ref (al 2)), some (.int a4), some (.int r2), some (.int x26), some (.int x27), some (.int x33), none, none, none, none, none, none, none, none, none, none]) (by rw [ex33]; rfl) ?_
      refine j_aload_n (pc := 134) X dL_acts_134 rfl ?_
      refine j_aload_n (pc := 135) X dL_acts_135 rfl ?_
      refine j_iload (pc := 136) X dL_acts_136 rfl ?_
      obtain ⟨r35, h34, hf⟩ := kB hf
      refine a_callLL (pc := 138) X hE (c_L_form N p28.2 x33 h34) (fun _ h => P_r h) gL_acts_L_form rfl ⟨rfl, rfl⟩ hd_L_form ⟨(Nat.le_of_ble_eq_true rfl), (Nat.le_of_ble_eq_true rfl)⟩ rfl (Nat.le_of_ble_eq_true rfl) rfl dL_acts_138 ?_
      refine j_lstore (pc := 141) X dL_acts_141 (Nat.le_of_ble_eq_true rfl) (lv' := [some (.ref (ad 0)), some (.ref (al 0)), some (.ref (al 1)), some (.ref (al 2)), some (.int a4), some (.int r2), some (.int x26), some (.int x27), some (.int x33), some (.long r35), none, none, none, none, none, none, none, none, none]) rfl ?_
      refine j_aload_n (pc := 143) X dL_acts_143 rfl ?_
      refine j_iload (pc := 144) X dL_acts_144 rfl ?_
      refine j_lload (pc := 146) X dL_acts_146 rfl ?_
      refine j_lconst (pc := 148) X dL_acts_148 klL_0 ?_
      refine j_lcmp (pc := 149) X dL_acts_149 ?_
      obtain ⟨j195_36, ej195_36, hf⟩ := jn_s hf
      have hj195_36 : ∀ (t36 : Int64), j195_36 t36 = some (r, pr) → JA g (WCL cI cS cJ ad al p28) 19 195 [some (.ref (ad 0)), some (.ref (al 0)), some (.ref (al 1)), some (.ref (al 2)), some (.int a4), some (.int r2), some (.int x26), some (.int x27), some (.int x33), some (.long r35), none, none, none, none, none, none, none, none, none] [.long t36, .int x27, .ref (al 2)] := by
        intro t36 hf
        have hf := jE1 ej195_36 hf
        obtain ⟨b38, hf⟩ := gIn_s hf
        obtain ⟨gb38, hf⟩ := gL_s hf
        obtain ⟨p39, ep39, hf⟩ := jn_s hf
        refine a_last (W1 := (WCL cI cS cJ ad al p39)) (pc := 195) X hE hA (hD _) (al_A (by decide)) wcl_2 b38 dL_acts_195 (by rw [ep39]; exact scl_2 _ _ _ gb38) ?_
        refine j_iload (pc := 196) X dL_acts_196 rfl ?_
        obtain ⟨j231_41, ej231_41, hf⟩ := jn_s hf
        have hj231_41 : ∀ (t40 : Int32) (p41 : kS × kS), j231_41 t40 p41 = some (r, pr) → JA g (WCL cI cS cJ ad al p41) 19 231 [some (.ref (ad 0)), some (.ref (al 0)), some (.ref (al 1)), some (.ref (al 2)), some (.int a4), some (.int r2), some (.int x26), some (.int x27), some (.int x33), some (.long r35), none, none, none, none, none, none, none, none, none] [.int t40] := by
          intro t40 p41 hf
          have hf := jE2 ej231_41 hf
          refine j_istore (pc := 231) X dL_acts_231 (Nat.le_of_ble_eq_true rfl) (lv' := [some (.ref (ad 0)), some (.ref (al 0)), some (.ref (al 1)), some (.ref (al 2)), some (.int a4), some (.int r2), some (.int t40), some (.int x27), some (.int x33), some (.long r35), none, none, none, none, none, none, none, none, none]) rfl ?_
          refine j_iinc (pc := 233) X dL_acts_233 rfl (v := x27 + 1) (by rw [kcL_1]) (Nat.le_of_ble_eq_true rfl) (lv' := [some (.ref (ad 0)), some (.ref (al 0)), some (.ref (al 1)), some (.ref (al 2)), some (.int a4), some (.int r2), some (.int t40), some (.int (x27 + 1)), some (.int x33), some (.long r35), none, none, none, none, none, none, none, none, none]) rfl ?_
          refine j_goto (tgt := 111) (pc := 236) X dL_acts_236 rfl ?_
          refine j_weak (lv' := [some (.ref (ad 0)), some (.ref (al 0)), some (.ref (al 1)), some (.ref (al 2)), some (.int a4), some (.int r2), some (.int t40), some (.int (x27 + 1)), none, none, none, none, none, none, none, none, none, none, none]) (And.intro rfl (And.intro rfl (And.intro rfl (And.intro rfl (And.intro rfl (And.intro rfl (And.intro rfl (And.intro rfl trivial)))))))) ?_
          exact ih _ _ _ hf
        obtain ⟨j230_43, ej230_43, hf⟩ := jn_s hf
        have hj230_43 : ∀ (p43 : kS × kS), j230_43 p43 = some (r, pr) → JA g (WCL cI cS cJ ad al p43) 19 230 [some (.ref (ad 0)), some (.ref (al 0)), some (.ref (al 1)), some (.ref (al 2)), some (.int a4), some (.int r2), some (.int x26), some (.int x27), some (.int x33), some (.long r35), none, none, none, none, none, none, none, none, none] [] := by
          intro p43 hf
          have hf := jE1 ej230_43 hf
          refine j_iconst (pc := 230) X dL_acts_230 kcL_0 ?_
          exact hj231_41 _ _ hf
        refine j_if_eq (tgt := 230) (pc := 198) X dL_acts_198 rfl (fun c45 => ?_) (fun c45 => ?_)
        · have hf := kT c45 hf
          exact hj230_43 _ hf
        · have hf := kF c45 hf
          refine j_iload (pc := 201) X dL_acts_201 rfl ?_
          obtain ⟨j215_46, ej215_46, hf⟩ := jn_s hf
          have hj215_46 : ∀ (p46 : kS × kS), j215_46 p46 = some (r, pr) → JA g (WCL cI cS cJ ad al p46) 19 215 [some (.ref (ad 0)), some (.ref (al 0)), some (.ref (al 1)), some (.ref (al 2)), some (.int a4), some (.int r2), some (.int x26), some (.int x27), some (.int x33), some (.long r35), none, none, none, none, none, none, none, none, none] [] := by
            intro p46 hf
            have hf := jE1 ej215_46 hf
            refine j_aload_n (pc := 215) X dL_acts_215 rfl ?_
            refine j_aload_n (pc := 216) X dL_acts_216 rfl ?_
            refine j_iload (pc := 217) X dL_acts_217 rfl ?_
            obtain ⟨b48, hf⟩ := gIn_s hf
            refine a_lald (pc := 219) X hE wcl_2 b48 dL_acts_219 ?_
            obtain ⟨r50, h49, hf⟩ := kB hf
            refine a_callWL (pc := 220) X hE hA (c_L_says hI N p46 ((p46.2 2 x27.toNatClampNeg).toInt64) h49) gL_acts_L_says rfl ⟨rfl, rfl⟩ hd_L_says ⟨(Nat.le_of_ble_eq_true rfl), (Nat.le_of_ble_eq_true rfl)⟩ rfl (Nat.le_of_ble_eq_true rfl) rfl dL_acts_220 ?_
            obtain ⟨p51, ep51, hf⟩ := jn_s hf
            rw [← ep51]
            refine j_if_eq (tgt := 230) (pc := 223) X dL_acts_223 rfl (fun c52 => ?_) (fun c52 => ?_)
            · have hf := kT c52 hf
              exact hj230_43 _ hf
            · have hf := kF c52 hf
              refine j_iconst (pc := 226) X dL_acts_226 kcL_1 ?_
              refine j_goto (tgt := 231) (pc := 227) X dL_acts_227 rfl ?_
              exact hj231_41 _ _ hf
          refine j_if_eq (tgt := 215) (pc := 203) X dL_acts_203 rfl (fun c53 => ?_) (fun c53 => ?_)
          · have hf := kT c53 hf
            exact hj215_46 _ hf
          · have hf := kF c53 hf
            refine j_aload_n (pc := 206) X dL_acts_206 rfl ?_
            refine j_bipush (pc := 207) X dL_acts_207 kbL_32 ?_
            obtain ⟨r55, h54, hf⟩ := kB hf
            refine a_cW (pc := 209) X hA hI (c_X8_type hI.1 N p39.1 32 h54) gL_acts_X8_type rfl ⟨rfl, rfl⟩ rfl hd_X8_type ⟨(Nat.le_of_ble_eq_true rfl), (Nat.le_of_ble_eq_true rfl)⟩ rfl (Nat.le_of_ble_eq_true rfl) rfl dL_acts_209 ?_
            obtain ⟨p56, ep56, hf⟩ := jn_s hf
            rw [← ep56]
            refine j_if_le (tgt := 230) (pc := 212) X dL_acts_212 rfl (fun c57 => ?_) (fun c57 => ?_)
            · have hf := kT c57 hf
              exact hj230_43 _ hf
            · have hf := kF c57 hf
              exact hj215_46 _ hf
      obtain ⟨j168_57, ej168_57, hf⟩ := jn_s hf
      have hj168_57 : ∀ (_ : Unit), j168_57 = some (r, pr) → JA g (WCL cI cS cJ ad al p28) 19 168 [some (.ref (ad 0)), some (.ref (al 0)), some (.ref (al 1)), some (.ref (al 2)), some (.int a4), some (.int r2), some (.int x26), some (.int x27), some (.int x33), some (.long r35), none, none, none, none, none, none, none, none, none] [.int x27, .ref (al 2)] := by
        intro _ hf
        have hf := jE0 ej168_57 hf
        refine j_iload (pc := 168) X dL_acts_168 rfl ?_
        refine j_bipush (pc := 170) X dL_acts_170 kbL_7 ?_
        obtain ⟨z59, hf⟩ := gNz_s hf
        refine j_idiv (pc := 172) X dL_acts_172 z59 ?_
        refine j_sipush (pc := 173) X dL_acts_173 ksL_1237 ?_
        refine j_iload (pc := 176) X dL_acts_176 rfl ?_
        refine j_imul (pc := 178) X dL_acts_178 ?_
        refine j_iadd (pc := 179) X dL_acts_179 ?_
        refine j_iconst (pc := 180) X dL_acts_180 kcL_1 ?_
        refine j_iload (pc := 181) X dL_acts_181 rfl ?_
        refine j_bipush (pc := 183) X dL_acts_183 kbL_11 ?_
        obtain ⟨z60, hf⟩ := gNz_s hf
        refine j_idiv (pc := 185) X dL_acts_185 z60 ?_
        refine j_iload (pc := 186) X dL_acts_186 rfl ?_
        refine j_iadd (pc := 188) X dL_acts_188 ?_
        refine j_iconst (pc := 189) X dL_acts_189 kcL_4 ?_
        obtain ⟨z61, hf⟩ := gNz_s hf
        refine j_irem (pc := 190) X dL_acts_190 z61 ?_
        refine j_iadd (pc := 191) X dL_acts_191 ?_
        obtain ⟨r63, h62, hf⟩ := kB hf
        refine a_callLP (pc := 192) X (c_L_letters N ((r2 / 7) + (1237 * x27)) (1 + (((r2 / 11) + x27) - ((r2 / 11) + x27) / 4 * 4)) h62) gL_acts_L_letters rfl ⟨rfl, rfl⟩ hd_L_letters ⟨(Nat.le_of_ble_eq_true rfl), (Nat.le_of_ble_eq_true rfl)⟩ rfl (Nat.le_of_ble_eq_true rfl) rfl dL_acts_192 ?_
        exact hj195_36 _ hf
      refine j_if_le (tgt := 168) (pc := 150) X dL_acts_150 rfl (fun c64 => ?_) (fun c64 => ?_)
      · have hf := kT c64 hf
        exact hj168_57 () hf
      · have hf := kF c64 hf
        refine j_iload (pc := 153) X dL_acts_153 rfl ?_
        refine j_iload (pc := 155) X dL_acts_155 rfl ?_
        refine j_ishr (pc := 157) X dL_acts_157 ?_
        refine j_iconst (pc := 158) X dL_acts_158 kcL_3 ?_
        refine j_iand (pc := 159) X dL_acts_159 ?_
        refine j_if_le (tgt := 168) (pc := 160) X dL_acts_160 rfl (fun c65 => ?_) (fun c65 => ?_)
        · have hf := kT c65 hf
          exact hj168_57 () hf
        · have hf := kF c65 hf
          refine j_lload (pc := 163) X dL_acts_163 rfl ?_
          refine j_goto (tgt := 195) (pc := 165) X dL_acts_165 rfl ?_
          exact hj195_36 _ hf
set_option maxHeartbeats 4000000 in
set_option maxRecDepth 100000 in
theorem lt_L_acts_282 {g : kG} {cI cS cJ : ClassId} {ad al : Nat → Nat} (X : Kx g cI cS cL_acts RL wsL_acts 19 rm_L_acts) (hE : kE g.2.2.2.1 cJ g.1.2.2.2.2) (hA : g.2.2.1 = va_S (lwA ad al) g.1.2.2.2.2.heap) (hI : lwD ad al) {LV GV : Nat} (hZ : kZ (lwA ad al) LV GV g.1.2.2.2.2) (hD : ∀ z : kS × kS, va_D (fun _ => True) (WCL cI cS cJ ad al z)) {r : Int32} {pr : kS × kS} (hR : eI g 19 cL_acts .boolean (WCL cI cS cJ ad al pr) r) (N : Nat) (a4 : Int32) (r2 : Int32) (p5 : kS × kS) (t6 : Int32) (r70 : Int64) (k322_71 : Int32 → Option (Int32 × (kS × kS))) (hk322_71 : ∀ (x71 : Int32), k322_71 x71 = some (r, pr) → JA g (WCL cI cS cJ ad al p5) 19 322 [some (.ref (ad 0)), some (.ref (al 0)), some (.ref (al 1)), some (.ref (al 2)), some (.int a4), some (.int r2), some (.int t6), some (.long r70), none, some (.int x71), none, none, none, none, none, none, none, none, none] []) : ∀ (n : Nat) (x115 : Int32) (x116 : Int32), lp_L_acts_282 N p5 r70 k322_71 n x115 x116 = some (r, pr) → JA g (WCL cI cS cJ ad al p5) 19 282 [some (.ref (ad 0)), some (.ref (al 0)), some (.ref (al 1)), some (.ref (al 2)), some (.int a4), some (.int r2), some (.int t6), some (.long r70), none, some (.int x115), some (.int x116), none, none, none, none, none, none, none, none] [] := by
  intro n
  induction n with
  | zero =>
    intro x115 x116 hf
    rw [lp_L_acts_282] at hf
    cases hf
  | succ n ih =>
    intro x115 x116 hf
    rw [lp_L_acts_282] at hf
    refine j_iload (pc := 282) X dL_acts_282 rfl ?_
    refine j_aload_n (pc := 284) X dL_acts_284 rfl ?_
    refine j_bipush (pc := 285) X dL_acts_285 kbL_6 ?_
    obtain ⟨b117, hf⟩ := gIn_s hf
    refine a_iald (pc := 287) X wcl_0 b117 dL_acts_287 ?_
    refine j_icmp_ge (tgt := 322) (pc := 288) X dL_acts_288 rfl (fun c118 => ?_) (fun c118 => ?_)
    · have hf := kT c118 hf
      refine j_weak (lv' := [some (.ref (ad 0)), some (.ref (al 0)), some (.ref (al 1)), some (.ref (al 2)), some (.int a4), some (.int r2), some (.int t6), some (.long r70), none, some (.int x115), none, none, none, none, none, none, none, none, none]) (And.intro rfl (And.intro rfl (And.intro rfl (And.intro rfl (And.intro rfl (And.intro rfl (And.intro rfl (And.intro rfl (And.intro rfl trivial))))))))) ?_
      exact hk322_71 _ hf
    · have hf := kF c118 hf
      refine j_iload (pc := 291) X dL_acts_291 rfl ?_
      obtain ⟨j314_119, ej314_119, hf⟩ := jn_s hf
      have hj314_119 : ∀ (t119 : Int32), j314_119 t119 = some (r, pr) → JA g (WCL cI cS cJ ad al p5) 19 314 [some (.ref (ad 0)), some (.ref (al 0)), some (.ref (al 1)), some (.ref (al 2)), some (.int a4), some (.int r2), some (.int t6), some (.long r70), none, some (.int x115), some (.int x116), none, none, none, none, none, none, none, none] [.int t119] := by
        intro t119 hf
        have hf := jE1 ej314_119 hf
        refine j_istore (pc := 314) X dL_acts_314 (Nat.le_of_ble_eq_true rfl) (lv' := [some (.ref (ad 0)), some (.ref (al 0)), some (.ref (al 1)), some (.ref (al 2)), some (.int a4), some (.int r2), some (.int t6), some (.long r70), none, some (.int t119), some (.int x116), none, none, none, none, none, none, none, none]) rfl ?_
        refine j_iinc (pc := 316) X dL_acts_316 rfl (v := x116 + 1) (by rw [kcL_1]) (Nat.le_of_ble_eq_true rfl) (lv' := [some (.ref (ad 0)), some (.ref (al 0)), some (.ref (al 1)), some (.ref (al 2)), some (.int a4), some (.int r2), some (.int t6), some (.long r70), none, some (.int t119), some (.int (x116 + 1)), none, none, none, none, none, none, none, none]) rfl ?_
        refine j_goto (tgt := 282) (pc := 319) X dL_acts_319 rfl ?_
        exact ih _ _ hf
      obtain ⟨j309_120, ej309_120, hf⟩ := jn_s hf
      have hj309_120 : ∀ (_ : Unit), j309_120 = some (r, pr) → JA g (WCL cI cS cJ ad al p5) 19 309 [some (.ref (ad 0)), some (.ref (al 0)), some (.ref (al 1)), some (.ref (al 2)), some (.int a4), some (.int r2), some (.int t6), some (.long r70), none, some (.int x115), some (.int x116), none, none, none, none, none, none, none, none] [] := by
        intro _ hf
        have hf := jE0 ej309_120 hf
        refine j_iconst (pc := 309) X dL_acts_309 kcL_1 ?_
        refine j_goto (tgt := 314) (pc := 310) X dL_acts_310 rfl ?_
        exact hj314_119 _ hf
      refine j_if_ne (tgt := 309) (pc := 293) X dL_acts_293 rfl (fun c122 => ?_) (fun c122 => ?_)
      · have hf := kF c122 hf
        exact hj309_120 () hf
      · have hf := kT c122 hf
        refine j_aload_n (pc := 296) X dL_acts_296 rfl ?_
        refine j_bipush (pc := 297) X dL_acts_297 kbL_8 ?_
        refine j_iload (pc := 299) X dL_acts_299 rfl ?_
        refine j_iadd (pc := 301) X dL_acts_301 ?_
        obtain ⟨b123, hf⟩ := gIn_s hf
        refine a_lald (pc := 302) X hE wcl_2 b123 dL_acts_302 ?_
        refine j_lload (pc := 303) X dL_acts_303 rfl ?_
        refine j_lcmp (pc := 305) X dL_acts_305 ?_
        refine j_if_ne (tgt := 313) (pc := 306) X dL_acts_306 rfl (fun c124 => ?_) (fun c124 => ?_)
        · have hf := kF c124 hf
          refine j_iconst (pc := 313) X dL_acts_313 kcL_0 ?_
          exact hj314_119 _ hf
        · have hf := kT c124 hf
          exact hj309_120 () hf
set_option maxHeartbeats 4000000 in
set_option maxRecDepth 100000 in
theorem lt_L_acts_665 {g : kG} {cI cS cJ : ClassId} {ad al : Nat → Nat} (X : Kx g cI cS cL_acts RL wsL_acts 19 rm_L_acts) (hE : kE g.2.2.2.1 cJ g.1.2.2.2.2) (hA : g.2.2.1 = va_S (lwA ad al) g.1.2.2.2.2.heap) (hI : lwD ad al) {LV GV : Nat} (hZ : kZ (lwA ad al) LV GV g.1.2.2.2.2) (hD : ∀ z : kS × kS, va_D (fun _ => True) (WCL cI cS cJ ad al z)) {r : Int32} {pr : kS × kS} (hR : eI g 19 cL_acts .boolean (WCL cI cS cJ ad al pr) r) (N : Nat) (a4 : Int32) (r2 : Int32) (t6 : Int32) (x236 : Int32) (k688_237 : kS × kS → Option (Int32 × (kS × kS))) (hk688_237 : ∀ (p237 : kS × kS), k688_237 p237 = some (r, pr) → JA g (WCL cI cS cJ ad al p237) 19 688 [some (.ref (ad 0)), some (.ref (al 0)), some (.ref (al 1)), some (.ref (al 2)), some (.int a4), some (.int r2), some (.int t6), none, none, none, none, none, none, some (.int x236), none, none, none, none, none] []) : ∀ (n : Nat) (x251 : Int32) (p252 : kS × kS), lp_L_acts_665 N k688_237 n x251 p252 = some (r, pr) → JA g (WCL cI cS cJ ad al p252) 19 665 [some (.ref (ad 0)), some (.ref (al 0)), some (.ref (al 1)), some (.ref (al 2)), some (.int a4), some (.int r2), some (.int t6), none, none, none, none, none, none, some (.int x236), some (.int x251), none, none, none, none] [] := by
  intro n
  induction n with
  | zero =>
    intro x251 p252 hf
    rw [lp_L_acts_665] at hf
    cases hf
  | succ n ih =>
    intro x251 p252 hf
    rw [lp_L_acts_665] at hf
    refine j_iload (pc := 665) X dL_acts_665 rfl ?_
    refine j_bipush (pc := 667) X dL_acts_667 kbL_11 ?_
    refine j_icmp_ge (tgt := 688) (pc := 669) X dL_acts_669 rfl (fun c253 => ?_) (fun c253 => ?_)
    · have hf := kT c253 hf
      refine j_weak (lv' := [some (.ref (ad 0)), some (.ref (al 0)), some (.ref (al 1)), some (.ref (al 2)), some (.int a4), some (.int r2), some (.int t6), none, none, none, none, none, none, some (.int x236), none, none, none, none, none]) (And.intro rfl (And.intro rfl (And.intro rfl (And.intro rfl (And.intro rfl (And.intro rfl (And.intro rfl (And.intro rfl trivial)))))))) ?_
      exact hk688_237 _ hf
    · have hf := kF c253 hf
      refine j_aload_n (pc := 672) X dL_acts_672 rfl ?_
      refine j_iload (pc := 673) X dL_acts_673 rfl ?_
      refine j_aload_n (pc := 675) X dL_acts_675 rfl ?_
      refine j_iload (pc := 676) X dL_acts_676 rfl ?_
      refine j_iconst (pc := 678) X dL_acts_678 kcL_1 ?_
      refine j_iadd (pc := 679) X dL_acts_679 ?_
      obtain ⟨b254, hf⟩ := gIn_s hf
      refine a_lald (pc := 680) X hE wcl_2 b254 dL_acts_680 ?_
      obtain ⟨b255, hf⟩ := gIn_s hf
      obtain ⟨gb255, hf⟩ := gL_s hf
      obtain ⟨p256, ep256, hf⟩ := jn_s hf
      refine a_last (W1 := (WCL cI cS cJ ad al p256)) (pc := 681) X hE hA (hD _) (al_A (by decide)) wcl_2 b255 dL_acts_681 (by rw [ep256]; exact scl_2 _ _ _ gb255) ?_
      refine j_iinc (pc := 682) X dL_acts_682 rfl (v := x251 + 1) (by rw [kcL_1]) (Nat.le_of_ble_eq_true rfl) (lv' := [some (.ref (ad 0)), some (.ref (al 0)), some (.ref (al 1)), some (.ref (al 2)), some (.int a4), some (.int r2), some (.int t6), none, none, none, none, none, none, some (.int x236), some (.int (x251 + 1)), none, none, none, none]) rfl ?_
      refine j_goto (tgt := 665) (pc := 685) X dL_acts_685 rfl ?_
      exact ih _ _ hf
set_option maxHeartbeats 4000000 in
set_option maxRecDepth 100000 in
theorem t_L_acts {g : kG} {cI cS cJ : ClassId} {ad al : Nat → Nat} (X : Kx g cI cS cL_acts RL wsL_acts 19 rm_L_acts) (hE : kE g.2.2.2.1 cJ g.1.2.2.2.2) (hA : g.2.2.1 = va_S (lwA ad al) g.1.2.2.2.2.heap) (hI : lwD ad al) {LV GV : Nat} (hZ : kZ (lwA ad al) LV GV g.1.2.2.2.2) {r : Int32} {pr : kS × kS} (hR : eI g 19 cL_acts .boolean (WCL cI cS cJ ad al pr) r) (N : Nat) (p : kS × kS) (a4 : Int32) (hf : f_L_acts N p a4 = some (r, pr)) : JA g (WCL cI cS cJ ad al p) 19 0 [some (.ref (ad 0)), some (.ref (al 0)), some (.ref (al 1)), some (.ref (al 2)), some (.int a4), none, none, none, none, none, none, none, none, none, none, none, none, none, none] [] := by
  unfold f_L_acts at hf
  have hD : ∀ z : kS × kS, va_D (fun _ => True) (WCL cI cS cJ ad al z) := fun z => WCL_D hI
  refine j_iload (pc := 0) X dL_acts_0 rfl ?_
  refine j_iconst (pc := 2) X dL_acts_2 kcL_5 ?_
  refine j_ishr (pc := 3) X dL_acts_3 ?_
  refine j_ldc (pc := 4) X lk_L_acts_0 dL_acts_4 ?_
  obtain ⟨r2, h1, hf⟩ := kB hf
  refine j_callP (pc := 6) X (c_L_low N (a4 >>> (5 &&& 31)) 10000000 h1) gL_acts_L_low rfl ⟨rfl, rfl⟩ hd_L_low ⟨(Nat.le_of_ble_eq_true rfl), (Nat.le_of_ble_eq_true rfl)⟩ rfl (Nat.le_of_ble_eq_true rfl) rfl dL_acts_6 ?_
  refine j_istore (pc := 9) X dL_acts_9 (Nat.le_of_ble_eq_true rfl) (lv' := [some (.ref (ad 0)), some (.ref (al 0)), some (.ref (al 1)), some (.ref (al 2)), some (.int a4), some (.int r2), none, none, none, none, none, none, none, none, none, none, none, none, none]) rfl ?_
  refine j_aload_n (pc := 11) X dL_acts_11 rfl ?_
  obtain ⟨r4, h3, hf⟩ := kB hf
  refine a_cW (pc := 12) X hA hI (c_X8_clearText hI.1 N p.1 h3) gL_acts_X8_clearText rfl ⟨rfl, rfl⟩ rfl hd_X8_clearText ⟨(Nat.le_of_ble_eq_true rfl), (Nat.le_of_ble_eq_true rfl)⟩ rfl (Nat.le_of_ble_eq_true rfl) rfl dL_acts_12 ?_
  obtain ⟨p5, ep5, hf⟩ := jn_s hf
  rw [← ep5]
  obtain ⟨j23_6, ej23_6, hf⟩ := jn_s hf
  have hj23_6 : ∀ (t6 : Int32), j23_6 t6 = some (r, pr) → JA g (WCL cI cS cJ ad al p5) 19 23 [some (.ref (ad 0)), some (.ref (al 0)), some (.ref (al 1)), some (.ref (al 2)), some (.int a4), some (.int r2), none, none, none, none, none, none, none, none, none, none, none, none, none] [.int t6] := by
    intro t6 hf
    have hf := jE1 ej23_6 hf
    refine j_istore (pc := 23) X dL_acts_23 (Nat.le_of_ble_eq_true rfl) (lv' := [some (.ref (ad 0)), some (.ref (al 0)), some (.ref (al 1)), some (.ref (al 2)), some (.int a4), some (.int r2), some (.int t6), none, none, none, none, none, none, none, none, none, none, none, none]) rfl ?_
    refine j_iload (pc := 25) X dL_acts_25 rfl ?_
    refine j_bipush (pc := 27) X dL_acts_27 kbL_18 ?_
    obtain ⟨r9, h8, hf⟩ := kB hf
    refine j_callP (pc := 29) X (c_L_low N a4 18 h8) gL_acts_L_low rfl ⟨rfl, rfl⟩ hd_L_low ⟨(Nat.le_of_ble_eq_true rfl), (Nat.le_of_ble_eq_true rfl)⟩ rfl (Nat.le_of_ble_eq_true rfl) rfl dL_acts_29 ?_
    obtain ⟨j100_9, ej100_9, hf⟩ := jn_s hf
    have hj100_9 : ∀ (_ : Unit), j100_9 = some (r, pr) → JA g (WCL cI cS cJ ad al p5) 19 100 [some (.ref (ad 0)), some (.ref (al 0)), some (.ref (al 1)), some (.ref (al 2)), some (.int a4), some (.int r2), some (.int t6), none, none, none, none, none, none, none, none, none, none, none, none] [] := by
      intro _ hf
      have hf := jE0 ej100_9 hf
      refine j_aload_n (pc := 100) X dL_acts_100 rfl ?_
      refine j_iconst (pc := 101) X dL_acts_101 kcL_5 ?_
      refine j_iload (pc := 102) X dL_acts_102 rfl ?_
      refine j_bipush (pc := 104) X dL_acts_104 kbL_9 ?_
      obtain ⟨z11, hf⟩ := gNz_s hf
      refine j_irem (pc := 106) X dL_acts_106 z11 ?_
      obtain ⟨b12, hf⟩ := gIn_s hf
      obtain ⟨p13, ep13, hf⟩ := jn_s hf
      refine a_iast (W1 := (WCL cI cS cJ ad al p13)) (pc := 107) X hA (hD _) (al_A (by decide)) wcl_0 b12 dL_acts_107 (by rw [ep13]; exact scl_0 _) ?_
      refine j_iconst (pc := 108) X dL_acts_108 kcL_0 ?_
      refine j_istore (pc := 109) X dL_acts_109 (Nat.le_of_ble_eq_true rfl) (lv' := [some (.ref (ad 0)), some (.ref (al 0)), some (.ref (al 1)), some (.ref (al 2)), some (.int a4), some (.int r2), some (.int t6), some (.int 0), none, none, none, none, none, none, none, none, none, none, none]) rfl ?_
      obtain ⟨k239_15, ek239_15, hf⟩ := jn_s hf
      have hk239_15 : ∀ (x14 : Int32) (p15 : kS × kS), k239_15 x14 p15 = some (r, pr) → JA g (WCL cI cS cJ ad al p15) 19 239 [some (.ref (ad 0)), some (.ref (al 0)), some (.ref (al 1)), some (.ref (al 2)), some (.int a4), some (.int r2), some (.int x14), none, none, none, none, none, none, none, none, none, none, none, none] [] := by
        intro x14 p15 hf
        have hf := jE2 ek239_15 hf
        refine j_iload (pc := 239) X dL_acts_239 rfl ?_
        obtain ⟨j259_18, ej259_18, hf⟩ := jn_s hf
        have hj259_18 : ∀ (t17 : Int32) (p18 : kS × kS), j259_18 t17 p18 = some (r, pr) → JA g (WCL cI cS cJ ad al p18) 19 259 [some (.ref (ad 0)), some (.ref (al 0)), some (.ref (al 1)), some (.ref (al 2)), some (.int a4), some (.int r2), some (.int x14), none, none, none, none, none, none, none, none, none, none, none, none] [.int t17] := by
          intro t17 p18 hf
          have hf := jE2 ej259_18 hf
          exact a_retWB (Wf := WCL cI cS cJ ad al) hR dL_acts_259 hf
        refine j_if_eq (tgt := 258) (pc := 241) X dL_acts_241 rfl (fun c20 => ?_) (fun c20 => ?_)
        · have hf := kT c20 hf
          refine j_iconst (pc := 258) X dL_acts_258 kcL_0 ?_
          exact hj259_18 _ _ hf
        · have hf := kF c20 hf
          refine j_aload_n (pc := 244) X dL_acts_244 rfl ?_
          obtain ⟨r22, h21, hf⟩ := kB hf
          refine a_cW (pc := 245) X hA hI (c_X8_page hI.1 N p15.1 h21) gL_acts_X8_page rfl ⟨rfl, rfl⟩ rfl hd_X8_page ⟨(Nat.le_of_ble_eq_true rfl), (Nat.le_of_ble_eq_true rfl)⟩ rfl (Nat.le_of_ble_eq_true rfl) rfl dL_acts_245 ?_
          obtain ⟨p23, ep23, hf⟩ := jn_s hf
          rw [← ep23]
          refine j_aload_n (pc := 248) X dL_acts_248 rfl ?_
          refine j_iconst (pc := 249) X dL_acts_249 kcL_5 ?_
          obtain ⟨b24, hf⟩ := gIn_s hf
          refine a_iald (pc := 250) X wcl_0 b24 dL_acts_250 ?_
          refine j_icmp_ne (tgt := 258) (pc := 251) X dL_acts_251 rfl (fun c25 => ?_) (fun c25 => ?_)
          · have hf := kF c25 hf
            refine j_iconst (pc := 258) X dL_acts_258 kcL_0 ?_
            exact hj259_18 _ _ hf
          · have hf := kT c25 hf
            refine j_iconst (pc := 254) X dL_acts_254 kcL_1 ?_
            refine j_goto (tgt := 259) (pc := 255) X dL_acts_255 rfl ?_
            exact hj259_18 _ _ hf
      exact lt_L_acts_111 X hE hA hI hZ hD hR N a4 r2 k239_15 hk239_15 N _ _ _ hf
    obtain ⟨j260_65, ej260_65, hf⟩ := jn_s hf
    have hj260_65 : ∀ (_ : Unit), j260_65 = some (r, pr) → JA g (WCL cI cS cJ ad al p5) 19 260 [some (.ref (ad 0)), some (.ref (al 0)), some (.ref (al 1)), some (.ref (al 2)), some (.int a4), some (.int r2), some (.int t6), none, none, none, none, none, none, none, none, none, none, none, none] [] := by
      intro _ hf
      have hf := jE0 ej260_65 hf
      refine j_iload (pc := 260) X dL_acts_260 rfl ?_
      refine j_iconst (pc := 262) X dL_acts_262 kcL_1 ?_
      refine j_iload (pc := 263) X dL_acts_263 rfl ?_
      refine j_bipush (pc := 265) X dL_acts_265 kbL_64 ?_
      obtain ⟨z67, hf⟩ := gNz_s hf
      refine j_idiv (pc := 267) X dL_acts_267 z67 ?_
      refine j_iconst (pc := 268) X dL_acts_268 kcL_3 ?_
      obtain ⟨z68, hf⟩ := gNz_s hf
      refine j_irem (pc := 269) X dL_acts_269 z68 ?_
      refine j_iadd (pc := 270) X dL_acts_270 ?_
      obtain ⟨r70, h69, hf⟩ := kB hf
      refine a_callLP (pc := 271) X (c_L_letters N r2 (1 + ((r2 / 64) - (r2 / 64) / 3 * 3)) h69) gL_acts_L_letters rfl ⟨rfl, rfl⟩ hd_L_letters ⟨(Nat.le_of_ble_eq_true rfl), (Nat.le_of_ble_eq_true rfl)⟩ rfl (Nat.le_of_ble_eq_true rfl) rfl dL_acts_271 ?_
      refine j_lstore (pc := 274) X dL_acts_274 (Nat.le_of_ble_eq_true rfl) (lv' := [some (.ref (ad 0)), some (.ref (al 0)), some (.ref (al 1)), some (.ref (al 2)), some (.int a4), some (.int r2), some (.int t6), some (.long r70), none, none, none, none, none, none, none, none, none, none, none]) rfl ?_
      refine j_iconst (pc := 276) X dL_acts_276 kcL_0 ?_
      refine j_istore (pc := 277) X dL_acts_277 (Nat.le_of_ble_eq_true rfl) (lv' := [some (.ref (ad 0)), some (.ref (al 0)), some (.ref (al 1)), some (.ref (al 2)), some (.int a4), some (.int r2), some (.int t6), some (.long r70), none, some (.int 0), none, none, none, none, none, none, none, none, none]) rfl ?_
      refine j_iconst (pc := 279) X dL_acts_279 kcL_0 ?_
      refine j_istore (pc := 280) X dL_acts_280 (Nat.le_of_ble_eq_true rfl) (lv' := [some (.ref (ad 0)), some (.ref (al 0)), some (.ref (al 1)), some (.ref (al 2)), some (.int a4), some (.int r2), some (.int t6), some (.long r70), none, some (.int 0), some (.int 0), none, none, none, none, none, none, none, none]) rfl ?_
      obtain ⟨k322_71, ek322_71, hf⟩ := jn_s hf
      have hk322_71 : ∀ (x71 : Int32), k322_71 x71 = some (r, pr) → JA g (WCL cI cS cJ ad al p5) 19 322 [some (.ref (ad 0)), some (.ref (al 0)), some (.ref (al 1)), some (.ref (al 2)), some (.int a4), some (.int r2), some (.int t6), some (.long r70), none, some (.int x71), none, none, none, none, none, none, none, none, none] [] := by
        intro x71 hf
        have hf := jE1 ek322_71 hf
        refine j_aload_n (pc := 322) X dL_acts_322 rfl ?_
        refine j_bipush (pc := 323) X dL_acts_323 kbL_6 ?_
        obtain ⟨b73, hf⟩ := gIn_s hf
        refine a_iald (pc := 325) X wcl_0 b73 dL_acts_325 ?_
        refine j_iconst (pc := 326) X dL_acts_326 kcL_4 ?_
        refine j_icmp_ne (tgt := 350) (pc := 327) X dL_acts_327 rfl (fun c74 => ?_) (fun c74 => ?_)
        · have hf := kF c74 hf
          refine j_iload (pc := 350) X dL_acts_350 rfl ?_
          refine j_if_eq (tgt := 384) (pc := 352) X dL_acts_352 rfl (fun c75 => ?_) (fun c75 => ?_)
          · have hf := kT c75 hf
            refine j_aload_n (pc := 384) X dL_acts_384 rfl ?_
            refine j_bipush (pc := 385) X dL_acts_385 kbL_8 ?_
            refine j_aload_n (pc := 387) X dL_acts_387 rfl ?_
            refine j_bipush (pc := 388) X dL_acts_388 kbL_6 ?_
            obtain ⟨b76, hf⟩ := gIn_s hf
            refine a_iald (pc := 390) X wcl_0 b76 dL_acts_390 ?_
            refine j_iadd (pc := 391) X dL_acts_391 ?_
            refine j_lload (pc := 392) X dL_acts_392 rfl ?_
            obtain ⟨b77, hf⟩ := gIn_s hf
            obtain ⟨gb77, hf⟩ := gL_s hf
            obtain ⟨p78, ep78, hf⟩ := jn_s hf
            refine a_last (W1 := (WCL cI cS cJ ad al p78)) (pc := 394) X hE hA (hD _) (al_A (by decide)) wcl_2 b77 dL_acts_394 (by rw [ep78]; exact scl_2 _ _ _ gb77) ?_
            refine j_aload_n (pc := 395) X dL_acts_395 rfl ?_
            refine j_bipush (pc := 396) X dL_acts_396 kbL_6 ?_
            refine j_dup2 (pc := 398) X dL_acts_398 rfl rfl ?_
            obtain ⟨b79, hf⟩ := gIn_s hf
            refine a_iald (pc := 399) X wcl_0 b79 dL_acts_399 ?_
            refine j_iconst (pc := 400) X dL_acts_400 kcL_1 ?_
            refine j_iadd (pc := 401) X dL_acts_401 ?_
            obtain ⟨b80, hf⟩ := gIn_s hf
            obtain ⟨p81, ep81, hf⟩ := jn_s hf
            refine a_iast (W1 := (WCL cI cS cJ ad al p81)) (pc := 402) X hA (hD _) (al_A (by decide)) wcl_0 b80 dL_acts_402 (by rw [ep81]; exact scl_0 _) ?_
            refine j_iload (pc := 403) X dL_acts_403 rfl ?_
            obtain ⟨j435_83, ej435_83, hf⟩ := jn_s hf
            have hj435_83 : ∀ (t82 : Int32) (p83 : kS × kS), j435_83 t82 p83 = some (r, pr) → JA g (WCL cI cS cJ ad al p83) 19 435 [some (.ref (ad 0)), some (.ref (al 0)), some (.ref (al 1)), some (.ref (al 2)), some (.int a4), some (.int r2), some (.int t6), some (.long r70), none, some (.int x71), none, none, none, none, none, none, none, none, none] [.int t82] := by
              intro t82 p83 hf
              have hf := jE2 ej435_83 hf
              exact a_retWB (Wf := WCL cI cS cJ ad al) hR dL_acts_435 hf
            refine j_if_eq (tgt := 434) (pc := 405) X dL_acts_405 rfl (fun c85 => ?_) (fun c85 => ?_)
            · have hf := kT c85 hf
              refine j_iconst (pc := 434) X dL_acts_434 kcL_0 ?_
              exact hj435_83 _ _ hf
            · have hf := kF c85 hf
              refine j_aload_n (pc := 408) X dL_acts_408 rfl ?_
              refine j_lload (pc := 409) X dL_acts_409 rfl ?_
              obtain ⟨r87, h86, hf⟩ := kB hf
              refine a_callWL (pc := 411) X hE hA (c_L_says hI N p81 r70 h86) gL_acts_L_says rfl ⟨rfl, rfl⟩ hd_L_says ⟨(Nat.le_of_ble_eq_true rfl), (Nat.le_of_ble_eq_true rfl)⟩ rfl (Nat.le_of_ble_eq_true rfl) rfl dL_acts_411 ?_
              obtain ⟨p88, ep88, hf⟩ := jn_s hf
              rw [← ep88]
              refine j_if_eq (tgt := 434) (pc := 414) X dL_acts_414 rfl (fun c89 => ?_) (fun c89 => ?_)
              · have hf := kT c89 hf
                refine j_iconst (pc := 434) X dL_acts_434 kcL_0 ?_
                exact hj435_83 _ _ hf
              · have hf := kF c89 hf
                refine j_aload_n (pc := 417) X dL_acts_417 rfl ?_
                obtain ⟨r91, h90, hf⟩ := kB hf
                refine a_cW (pc := 418) X hA hI (c_X8_name hI.1 N p88.1 h90) gL_acts_X8_name rfl ⟨rfl, rfl⟩ rfl hd_X8_name ⟨(Nat.le_of_ble_eq_true rfl), (Nat.le_of_ble_eq_true rfl)⟩ rfl (Nat.le_of_ble_eq_true rfl) rfl dL_acts_418 ?_
                obtain ⟨p92, ep92, hf⟩ := jn_s hf
                rw [← ep92]
                refine j_aload_n (pc := 421) X dL_acts_421 rfl ?_
                refine j_bipush (pc := 422) X dL_acts_422 kbL_6 ?_
                obtain ⟨b93, hf⟩ := gIn_s hf
                refine a_iald (pc := 424) X wcl_0 b93 dL_acts_424 ?_
                refine j_iconst (pc := 425) X dL_acts_425 kcL_1 ?_
                refine j_isub (pc := 426) X dL_acts_426 ?_
                refine j_icmp_ne (tgt := 434) (pc := 427) X dL_acts_427 rfl (fun c94 => ?_) (fun c94 => ?_)
                · have hf := kF c94 hf
                  refine j_iconst (pc := 434) X dL_acts_434 kcL_0 ?_
                  exact hj435_83 _ _ hf
                · have hf := kT c94 hf
                  refine j_iconst (pc := 430) X dL_acts_430 kcL_1 ?_
                  refine j_goto (tgt := 435) (pc := 431) X dL_acts_431 rfl ?_
                  exact hj435_83 _ _ hf
          · have hf := kF c75 hf
            refine j_iload (pc := 355) X dL_acts_355 rfl ?_
            obtain ⟨j383_96, ej383_96, hf⟩ := jn_s hf
            have hj383_96 : ∀ (t95 : Int32) (p96 : kS × kS), j383_96 t95 p96 = some (r, pr) → JA g (WCL cI cS cJ ad al p96) 19 383 [some (.ref (ad 0)), some (.ref (al 0)), some (.ref (al 1)), some (.ref (al 2)), some (.int a4), some (.int r2), some (.int t6), some (.long r70), none, some (.int x71), none, none, none, none, none, none, none, none, none] [.int t95] := by
              intro t95 p96 hf
              have hf := jE2 ej383_96 hf
              exact a_retWB (Wf := WCL cI cS cJ ad al) hR dL_acts_383 hf
            refine j_if_eq (tgt := 382) (pc := 357) X dL_acts_357 rfl (fun c98 => ?_) (fun c98 => ?_)
            · have hf := kT c98 hf
              refine j_iconst (pc := 382) X dL_acts_382 kcL_0 ?_
              exact hj383_96 _ _ hf
            · have hf := kF c98 hf
              refine j_aload_n (pc := 360) X dL_acts_360 rfl ?_
              refine j_lload (pc := 361) X dL_acts_361 rfl ?_
              obtain ⟨r100, h99, hf⟩ := kB hf
              refine a_callWL (pc := 363) X hE hA (c_L_says hI N p5 r70 h99) gL_acts_L_says rfl ⟨rfl, rfl⟩ hd_L_says ⟨(Nat.le_of_ble_eq_true rfl), (Nat.le_of_ble_eq_true rfl)⟩ rfl (Nat.le_of_ble_eq_true rfl) rfl dL_acts_363 ?_
              obtain ⟨p101, ep101, hf⟩ := jn_s hf
              rw [← ep101]
              refine j_if_eq (tgt := 382) (pc := 366) X dL_acts_366 rfl (fun c102 => ?_) (fun c102 => ?_)
              · have hf := kT c102 hf
                refine j_iconst (pc := 382) X dL_acts_382 kcL_0 ?_
                exact hj383_96 _ _ hf
              · have hf := kF c102 hf
                refine j_aload_n (pc := 369) X dL_acts_369 rfl ?_
                obtain ⟨r104, h103, hf⟩ := kB hf
                refine a_cW (pc := 370) X hA hI (c_X8_name hI.1 N p101.1 h103) gL_acts_X8_name rfl ⟨rfl, rfl⟩ rfl hd_X8_name ⟨(Nat.le_of_ble_eq_true rfl), (Nat.le_of_ble_eq_true rfl)⟩ rfl (Nat.le_of_ble_eq_true rfl) rfl dL_acts_370 ?_
                obtain ⟨p105, ep105, hf⟩ := jn_s hf
                rw [← ep105]
                refine j_bipush (pc := 373) X dL_acts_373 kbL_m12 ?_
                refine j_icmp_ne (tgt := 382) (pc := 375) X dL_acts_375 rfl (fun c106 => ?_) (fun c106 => ?_)
                · have hf := kF c106 hf
                  refine j_iconst (pc := 382) X dL_acts_382 kcL_0 ?_
                  exact hj383_96 _ _ hf
                · have hf := kT c106 hf
                  refine j_iconst (pc := 378) X dL_acts_378 kcL_1 ?_
                  refine j_goto (tgt := 383) (pc := 379) X dL_acts_379 rfl ?_
                  exact hj383_96 _ _ hf
        · have hf := kT c74 hf
          refine j_iload (pc := 330) X dL_acts_330 rfl ?_
          obtain ⟨j349_108, ej349_108, hf⟩ := jn_s hf
          have hj349_108 : ∀ (t107 : Int32) (p108 : kS × kS), j349_108 t107 p108 = some (r, pr) → JA g (WCL cI cS cJ ad al p108) 19 349 [some (.ref (ad 0)), some (.ref (al 0)), some (.ref (al 1)), some (.ref (al 2)), some (.int a4), some (.int r2), some (.int t6), some (.long r70), none, some (.int x71), none, none, none, none, none, none, none, none, none] [.int t107] := by
            intro t107 p108 hf
            have hf := jE2 ej349_108 hf
            exact a_retWB (Wf := WCL cI cS cJ ad al) hR dL_acts_349 hf
          refine j_if_eq (tgt := 348) (pc := 332) X dL_acts_332 rfl (fun c110 => ?_) (fun c110 => ?_)
          · have hf := kT c110 hf
            refine j_iconst (pc := 348) X dL_acts_348 kcL_0 ?_
            exact hj349_108 _ _ hf
          · have hf := kF c110 hf
            refine j_aload_n (pc := 335) X dL_acts_335 rfl ?_
            obtain ⟨r112, h111, hf⟩ := kB hf
            refine a_cW (pc := 336) X hA hI (c_X8_name hI.1 N p5.1 h111) gL_acts_X8_name rfl ⟨rfl, rfl⟩ rfl hd_X8_name ⟨(Nat.le_of_ble_eq_true rfl), (Nat.le_of_ble_eq_true rfl)⟩ rfl (Nat.le_of_ble_eq_true rfl) rfl dL_acts_336 ?_
            obtain ⟨p113, ep113, hf⟩ := jn_s hf
            rw [← ep113]
            refine j_bipush (pc := 339) X dL_acts_339 kbL_m12 ?_
            refine j_icmp_ne (tgt := 348) (pc := 341) X dL_acts_341 rfl (fun c114 => ?_) (fun c114 => ?_)
            · have hf := kF c114 hf
              refine j_iconst (pc := 348) X dL_acts_348 kcL_0 ?_
              exact hj349_108 _ _ hf
            · have hf := kT c114 hf
              refine j_iconst (pc := 344) X dL_acts_344 kcL_1 ?_
              refine j_goto (tgt := 349) (pc := 345) X dL_acts_345 rfl ?_
              exact hj349_108 _ _ hf
      exact lt_L_acts_282 X hE hA hI hZ hD hR N a4 r2 p5 t6 r70 k322_71 hk322_71 N _ _ hf
    obtain ⟨j436_124, ej436_124, hf⟩ := jn_s hf
    have hj436_124 : ∀ (_ : Unit), j436_124 = some (r, pr) → JA g (WCL cI cS cJ ad al p5) 19 436 [some (.ref (ad 0)), some (.ref (al 0)), some (.ref (al 1)), some (.ref (al 2)), some (.int a4), some (.int r2), some (.int t6), none, none, none, none, none, none, none, none, none, none, none, none] [] := by
      intro _ hf
      have hf := jE0 ej436_124 hf
      refine j_iload (pc := 436) X dL_acts_436 rfl ?_
      refine j_iconst (pc := 438) X dL_acts_438 kcL_1 ?_
      refine j_iload (pc := 439) X dL_acts_439 rfl ?_
      refine j_bipush (pc := 441) X dL_acts_441 kbL_64 ?_
      obtain ⟨z126, hf⟩ := gNz_s hf
      refine j_idiv (pc := 443) X dL_acts_443 z126 ?_
      refine j_iconst (pc := 444) X dL_acts_444 kcL_2 ?_
      obtain ⟨z127, hf⟩ := gNz_s hf
      refine j_irem (pc := 445) X dL_acts_445 z127 ?_
      refine j_iadd (pc := 446) X dL_acts_446 ?_
      obtain ⟨r129, h128, hf⟩ := kB hf
      refine a_callLP (pc := 447) X (c_L_letters N r2 (1 + ((r2 / 64) - (r2 / 64) / 2 * 2)) h128) gL_acts_L_letters rfl ⟨rfl, rfl⟩ hd_L_letters ⟨(Nat.le_of_ble_eq_true rfl), (Nat.le_of_ble_eq_true rfl)⟩ rfl (Nat.le_of_ble_eq_true rfl) rfl dL_acts_447 ?_
      refine j_lstore (pc := 450) X dL_acts_450 (Nat.le_of_ble_eq_true rfl) (lv' := [some (.ref (ad 0)), some (.ref (al 0)), some (.ref (al 1)), some (.ref (al 2)), some (.int a4), some (.int r2), some (.int t6), none, none, none, some (.long r129), none, none, none, none, none, none, none, none]) rfl ?_
      refine j_aload_n (pc := 452) X dL_acts_452 rfl ?_
      refine j_bipush (pc := 453) X dL_acts_453 kbL_7 ?_
      obtain ⟨b130, hf⟩ := gIn_s hf
      refine a_iald (pc := 455) X wcl_0 b130 dL_acts_455 ?_
      obtain ⟨j492_131, ej492_131, hf⟩ := jn_s hf
      have hj492_131 : ∀ (t131 : Int32), j492_131 t131 = some (r, pr) → JA g (WCL cI cS cJ ad al p5) 19 492 [some (.ref (ad 0)), some (.ref (al 0)), some (.ref (al 1)), some (.ref (al 2)), some (.int a4), some (.int r2), some (.int t6), none, none, none, some (.long r129), none, none, none, none, none, none, none, none] [.int t131] := by
        intro t131 hf
        have hf := jE1 ej492_131 hf
        refine j_istore (pc := 492) X dL_acts_492 (Nat.le_of_ble_eq_true rfl) (lv' := [some (.ref (ad 0)), some (.ref (al 0)), some (.ref (al 1)), some (.ref (al 2)), some (.int a4), some (.int r2), some (.int t6), none, none, none, some (.long r129), none, some (.int t131), none, none, none, none, none, none]) rfl ?_
        refine j_iload (pc := 494) X dL_acts_494 rfl ?_
        obtain ⟨j507_132, ej507_132, hf⟩ := jn_s hf
        have hj507_132 : ∀ (_ : Unit), j507_132 = some (r, pr) → JA g (WCL cI cS cJ ad al p5) 19 507 [some (.ref (ad 0)), some (.ref (al 0)), some (.ref (al 1)), some (.ref (al 2)), some (.int a4), some (.int r2), some (.int t6), none, none, none, some (.long r129), none, some (.int t131), none, none, none, none, none, none] [] := by
          intro _ hf
          have hf := jE0 ej507_132 hf
          refine j_iload (pc := 507) X dL_acts_507 rfl ?_
          obtain ⟨j556_135, ej556_135, hf⟩ := jn_s hf
          have hj556_135 : ∀ (t134 : Int32) (p135 : kS × kS), j556_135 t134 p135 = some (r, pr) → JA g (WCL cI cS cJ ad al p135) 19 556 [some (.ref (ad 0)), some (.ref (al 0)), some (.ref (al 1)), some (.ref (al 2)), some (.int a4), some (.int r2), some (.int t6), none, none, none, some (.long r129), none, some (.int t131), none, none, none, none, none, none] [.int t134] := by
            intro t134 p135 hf
            have hf := jE2 ej556_135 hf
            exact a_retWB (Wf := WCL cI cS cJ ad al) hR dL_acts_556 hf
          refine j_if_eq (tgt := 555) (pc := 509) X dL_acts_509 rfl (fun c137 => ?_) (fun c137 => ?_)
          · have hf := kT c137 hf
            refine j_iconst (pc := 555) X dL_acts_555 kcL_0 ?_
            exact hj556_135 _ _ hf
          · have hf := kF c137 hf
            refine j_aload_n (pc := 512) X dL_acts_512 rfl ?_
            refine j_bipush (pc := 513) X dL_acts_513 kbL_7 ?_
            obtain ⟨b138, hf⟩ := gIn_s hf
            refine a_iald (pc := 515) X wcl_0 b138 dL_acts_515 ?_
            refine j_iconst (pc := 516) X dL_acts_516 kcL_2 ?_
            obtain ⟨j542_139, ej542_139, hf⟩ := jn_s hf
            have hj542_139 : ∀ (p139 : kS × kS), j542_139 p139 = some (r, pr) → JA g (WCL cI cS cJ ad al p139) 19 542 [some (.ref (ad 0)), some (.ref (al 0)), some (.ref (al 1)), some (.ref (al 2)), some (.int a4), some (.int r2), some (.int t6), none, none, none, some (.long r129), none, some (.int t131), none, none, none, none, none, none] [] := by
              intro p139 hf
              have hf := jE1 ej542_139 hf
              refine j_aload_n (pc := 542) X dL_acts_542 rfl ?_
              obtain ⟨r142, h141, hf⟩ := kB hf
              refine a_cW (pc := 543) X hA hI (c_X8_ending hI.1 N p139.1 h141) gL_acts_X8_ending rfl ⟨rfl, rfl⟩ rfl hd_X8_ending ⟨(Nat.le_of_ble_eq_true rfl), (Nat.le_of_ble_eq_true rfl)⟩ rfl (Nat.le_of_ble_eq_true rfl) rfl dL_acts_543 ?_
              obtain ⟨p143, ep143, hf⟩ := jn_s hf
              rw [← ep143]
              refine j_bipush (pc := 546) X dL_acts_546 kbL_m12 ?_
              refine j_icmp_ne (tgt := 555) (pc := 548) X dL_acts_548 rfl (fun c144 => ?_) (fun c144 => ?_)
              · have hf := kF c144 hf
                refine j_iconst (pc := 555) X dL_acts_555 kcL_0 ?_
                exact hj556_135 _ _ hf
              · have hf := kT c144 hf
                refine j_iconst (pc := 551) X dL_acts_551 kcL_1 ?_
                refine j_goto (tgt := 556) (pc := 552) X dL_acts_552 rfl ?_
                exact hj556_135 _ _ hf
            refine j_icmp_ne (tgt := 533) (pc := 517) X dL_acts_517 rfl (fun c145 => ?_) (fun c145 => ?_)
            · have hf := kF c145 hf
              refine j_aload_n (pc := 533) X dL_acts_533 rfl ?_
              refine j_lload (pc := 534) X dL_acts_534 rfl ?_
              obtain ⟨r147, h146, hf⟩ := kB hf
              refine a_callWL (pc := 536) X hE hA (c_L_says hI N p5 r129 h146) gL_acts_L_says rfl ⟨rfl, rfl⟩ hd_L_says ⟨(Nat.le_of_ble_eq_true rfl), (Nat.le_of_ble_eq_true rfl)⟩ rfl (Nat.le_of_ble_eq_true rfl) rfl dL_acts_536 ?_
              obtain ⟨p148, ep148, hf⟩ := jn_s hf
              rw [← ep148]
              refine j_if_eq (tgt := 555) (pc := 539) X dL_acts_539 rfl (fun c149 => ?_) (fun c149 => ?_)
              · have hf := kT c149 hf
                refine j_iconst (pc := 555) X dL_acts_555 kcL_0 ?_
                exact hj556_135 _ _ hf
              · have hf := kF c149 hf
                exact hj542_139 _ hf
            · have hf := kT c145 hf
              refine j_aload_n (pc := 520) X dL_acts_520 rfl ?_
              refine j_bipush (pc := 521) X dL_acts_521 kbL_65 ?_
              obtain ⟨r151, h150, hf⟩ := kB hf
              refine a_cW (pc := 523) X hA hI (c_X8_type hI.1 N p5.1 65 h150) gL_acts_X8_type rfl ⟨rfl, rfl⟩ rfl hd_X8_type ⟨(Nat.le_of_ble_eq_true rfl), (Nat.le_of_ble_eq_true rfl)⟩ rfl (Nat.le_of_ble_eq_true rfl) rfl dL_acts_523 ?_
              obtain ⟨p152, ep152, hf⟩ := jn_s hf
              rw [← ep152]
              refine j_iconst (pc := 526) X dL_acts_526 kcL_1 ?_
              refine j_icmp_ne (tgt := 555) (pc := 527) X dL_acts_527 rfl (fun c153 => ?_) (fun c153 => ?_)
              · have hf := kF c153 hf
                refine j_iconst (pc := 555) X dL_acts_555 kcL_0 ?_
                exact hj556_135 _ _ hf
              · have hf := kT c153 hf
                refine j_goto (tgt := 542) (pc := 530) X dL_acts_530 rfl ?_
                exact hj542_139 _ hf
        refine j_if_ne (tgt := 507) (pc := 496) X dL_acts_496 rfl (fun c154 => ?_) (fun c154 => ?_)
        · have hf := kF c154 hf
          exact hj507_132 () hf
        · have hf := kT c154 hf
          refine j_aload_n (pc := 499) X dL_acts_499 rfl ?_
          refine j_bipush (pc := 500) X dL_acts_500 kbL_7 ?_
          obtain ⟨b155, hf⟩ := gIn_s hf
          refine a_iald (pc := 502) X wcl_0 b155 dL_acts_502 ?_
          refine j_iconst (pc := 503) X dL_acts_503 kcL_2 ?_
          refine j_icmp_ne (tgt := 557) (pc := 504) X dL_acts_504 rfl (fun c156 => ?_) (fun c156 => ?_)
          · have hf := kF c156 hf
            refine j_aload_n (pc := 557) X dL_acts_557 rfl ?_
            refine j_bipush (pc := 558) X dL_acts_558 kbL_12 ?_
            refine j_aload_n (pc := 560) X dL_acts_560 rfl ?_
            refine j_bipush (pc := 561) X dL_acts_561 kbL_7 ?_
            obtain ⟨b157, hf⟩ := gIn_s hf
            refine a_iald (pc := 563) X wcl_0 b157 dL_acts_563 ?_
            refine j_iadd (pc := 564) X dL_acts_564 ?_
            refine j_lload (pc := 565) X dL_acts_565 rfl ?_
            obtain ⟨b158, hf⟩ := gIn_s hf
            obtain ⟨gb158, hf⟩ := gL_s hf
            obtain ⟨p159, ep159, hf⟩ := jn_s hf
            refine a_last (W1 := (WCL cI cS cJ ad al p159)) (pc := 567) X hE hA (hD _) (al_A (by decide)) wcl_2 b158 dL_acts_567 (by rw [ep159]; exact scl_2 _ _ _ gb158) ?_
            refine j_aload_n (pc := 568) X dL_acts_568 rfl ?_
            refine j_bipush (pc := 569) X dL_acts_569 kbL_7 ?_
            refine j_dup2 (pc := 571) X dL_acts_571 rfl rfl ?_
            obtain ⟨b160, hf⟩ := gIn_s hf
            refine a_iald (pc := 572) X wcl_0 b160 dL_acts_572 ?_
            refine j_iconst (pc := 573) X dL_acts_573 kcL_1 ?_
            refine j_iadd (pc := 574) X dL_acts_574 ?_
            obtain ⟨b161, hf⟩ := gIn_s hf
            obtain ⟨p162, ep162, hf⟩ := jn_s hf
            refine a_iast (W1 := (WCL cI cS cJ ad al p162)) (pc := 575) X hA (hD _) (al_A (by decide)) wcl_0 b161 dL_acts_575 (by rw [ep162]; exact scl_0 _) ?_
            refine j_iload (pc := 576) X dL_acts_576 rfl ?_
            obtain ⟨j608_164, ej608_164, hf⟩ := jn_s hf
            have hj608_164 : ∀ (t163 : Int32) (p164 : kS × kS), j608_164 t163 p164 = some (r, pr) → JA g (WCL cI cS cJ ad al p164) 19 608 [some (.ref (ad 0)), some (.ref (al 0)), some (.ref (al 1)), some (.ref (al 2)), some (.int a4), some (.int r2), some (.int t6), none, none, none, some (.long r129), none, some (.int t131), none, none, none, none, none, none] [.int t163] := by
              intro t163 p164 hf
              have hf := jE2 ej608_164 hf
              exact a_retWB (Wf := WCL cI cS cJ ad al) hR dL_acts_608 hf
            refine j_if_eq (tgt := 607) (pc := 578) X dL_acts_578 rfl (fun c166 => ?_) (fun c166 => ?_)
            · have hf := kT c166 hf
              refine j_iconst (pc := 607) X dL_acts_607 kcL_0 ?_
              exact hj608_164 _ _ hf
            · have hf := kF c166 hf
              refine j_aload_n (pc := 581) X dL_acts_581 rfl ?_
              refine j_lload (pc := 582) X dL_acts_582 rfl ?_
              obtain ⟨r168, h167, hf⟩ := kB hf
              refine a_callWL (pc := 584) X hE hA (c_L_says hI N p162 r129 h167) gL_acts_L_says rfl ⟨rfl, rfl⟩ hd_L_says ⟨(Nat.le_of_ble_eq_true rfl), (Nat.le_of_ble_eq_true rfl)⟩ rfl (Nat.le_of_ble_eq_true rfl) rfl dL_acts_584 ?_
              obtain ⟨p169, ep169, hf⟩ := jn_s hf
              rw [← ep169]
              refine j_if_eq (tgt := 607) (pc := 587) X dL_acts_587 rfl (fun c170 => ?_) (fun c170 => ?_)
              · have hf := kT c170 hf
                refine j_iconst (pc := 607) X dL_acts_607 kcL_0 ?_
                exact hj608_164 _ _ hf
              · have hf := kF c170 hf
                refine j_aload_n (pc := 590) X dL_acts_590 rfl ?_
                obtain ⟨r172, h171, hf⟩ := kB hf
                refine a_cW (pc := 591) X hA hI (c_X8_ending hI.1 N p169.1 h171) gL_acts_X8_ending rfl ⟨rfl, rfl⟩ rfl hd_X8_ending ⟨(Nat.le_of_ble_eq_true rfl), (Nat.le_of_ble_eq_true rfl)⟩ rfl (Nat.le_of_ble_eq_true rfl) rfl dL_acts_591 ?_
                obtain ⟨p173, ep173, hf⟩ := jn_s hf
                rw [← ep173]
                refine j_aload_n (pc := 594) X dL_acts_594 rfl ?_
                refine j_bipush (pc := 595) X dL_acts_595 kbL_7 ?_
                obtain ⟨b174, hf⟩ := gIn_s hf
                refine a_iald (pc := 597) X wcl_0 b174 dL_acts_597 ?_
                refine j_iconst (pc := 598) X dL_acts_598 kcL_1 ?_
                refine j_isub (pc := 599) X dL_acts_599 ?_
                refine j_icmp_ne (tgt := 607) (pc := 600) X dL_acts_600 rfl (fun c175 => ?_) (fun c175 => ?_)
                · have hf := kF c175 hf
                  refine j_iconst (pc := 607) X dL_acts_607 kcL_0 ?_
                  exact hj608_164 _ _ hf
                · have hf := kT c175 hf
                  refine j_iconst (pc := 603) X dL_acts_603 kcL_1 ?_
                  refine j_goto (tgt := 608) (pc := 604) X dL_acts_604 rfl ?_
                  exact hj608_164 _ _ hf
          · have hf := kT c156 hf
            exact hj507_132 () hf
      obtain ⟨j487_175, ej487_175, hf⟩ := jn_s hf
      have hj487_175 : ∀ (_ : Unit), j487_175 = some (r, pr) → JA g (WCL cI cS cJ ad al p5) 19 487 [some (.ref (ad 0)), some (.ref (al 0)), some (.ref (al 1)), some (.ref (al 2)), some (.int a4), some (.int r2), some (.int t6), none, none, none, some (.long r129), none, none, none, none, none, none, none, none] [] := by
        intro _ hf
        have hf := jE0 ej487_175 hf
        refine j_iconst (pc := 487) X dL_acts_487 kcL_1 ?_
        refine j_goto (tgt := 492) (pc := 488) X dL_acts_488 rfl ?_
        exact hj492_131 _ hf
      obtain ⟨j469_176, ej469_176, hf⟩ := jn_s hf
      have hj469_176 : ∀ (_ : Unit), j469_176 = some (r, pr) → JA g (WCL cI cS cJ ad al p5) 19 469 [some (.ref (ad 0)), some (.ref (al 0)), some (.ref (al 1)), some (.ref (al 2)), some (.int a4), some (.int r2), some (.int t6), none, none, none, some (.long r129), none, none, none, none, none, none, none, none] [] := by
        intro _ hf
        have hf := jE0 ej469_176 hf
        refine j_aload_n (pc := 469) X dL_acts_469 rfl ?_
        refine j_bipush (pc := 470) X dL_acts_470 kbL_7 ?_
        obtain ⟨b178, hf⟩ := gIn_s hf
        refine a_iald (pc := 472) X wcl_0 b178 dL_acts_472 ?_
        refine j_iconst (pc := 473) X dL_acts_473 kcL_1 ?_
        obtain ⟨j491_178, ej491_178, hf⟩ := jn_s hf
        have hj491_178 : ∀ (_ : Unit), j491_178 = some (r, pr) → JA g (WCL cI cS cJ ad al p5) 19 491 [some (.ref (ad 0)), some (.ref (al 0)), some (.ref (al 1)), some (.ref (al 2)), some (.int a4), some (.int r2), some (.int t6), none, none, none, some (.long r129), none, none, none, none, none, none, none, none] [] := by
          intro _ hf
          have hf := jE0 ej491_178 hf
          refine j_iconst (pc := 491) X dL_acts_491 kcL_0 ?_
          exact hj492_131 _ hf
        refine j_icmp_le (tgt := 491) (pc := 474) X dL_acts_474 rfl (fun c180 => ?_) (fun c180 => ?_)
        · have hf := kT c180 hf
          exact hj491_178 () hf
        · have hf := kF c180 hf
          refine j_aload_n (pc := 477) X dL_acts_477 rfl ?_
          refine j_bipush (pc := 478) X dL_acts_478 kbL_13 ?_
          obtain ⟨b181, hf⟩ := gIn_s hf
          refine a_lald (pc := 480) X hE wcl_2 b181 dL_acts_480 ?_
          refine j_lload (pc := 481) X dL_acts_481 rfl ?_
          refine j_lcmp (pc := 483) X dL_acts_483 ?_
          refine j_if_ne (tgt := 491) (pc := 484) X dL_acts_484 rfl (fun c182 => ?_) (fun c182 => ?_)
          · have hf := kF c182 hf
            exact hj491_178 () hf
          · have hf := kT c182 hf
            exact hj487_175 () hf
      refine j_if_le (tgt := 469) (pc := 456) X dL_acts_456 rfl (fun c183 => ?_) (fun c183 => ?_)
      · have hf := kT c183 hf
        exact hj469_176 () hf
      · have hf := kF c183 hf
        refine j_aload_n (pc := 459) X dL_acts_459 rfl ?_
        refine j_bipush (pc := 460) X dL_acts_460 kbL_12 ?_
        obtain ⟨b184, hf⟩ := gIn_s hf
        refine a_lald (pc := 462) X hE wcl_2 b184 dL_acts_462 ?_
        refine j_lload (pc := 463) X dL_acts_463 rfl ?_
        refine j_lcmp (pc := 465) X dL_acts_465 ?_
        refine j_if_eq (tgt := 487) (pc := 466) X dL_acts_466 rfl (fun c185 => ?_) (fun c185 => ?_)
        · have hf := kT c185 hf
          exact hj487_175 () hf
        · have hf := kF c185 hf
          exact hj469_176 () hf
    obtain ⟨j826_185, ej826_185, hf⟩ := jn_s hf
    have hj826_185 : ∀ (_ : Unit), j826_185 = some (r, pr) → JA g (WCL cI cS cJ ad al p5) 19 826 [some (.ref (ad 0)), some (.ref (al 0)), some (.ref (al 1)), some (.ref (al 2)), some (.int a4), some (.int r2), some (.int t6), none, none, none, none, none, none, none, none, none, none, none, none] [] := by
      intro _ hf
      have hf := jE0 ej826_185 hf
      refine j_iload (pc := 826) X dL_acts_826 rfl ?_
      refine j_iconst (pc := 828) X dL_acts_828 kcL_5 ?_
      obtain ⟨z187, hf⟩ := gNz_s hf
      refine j_irem (pc := 829) X dL_acts_829 z187 ?_
      obtain ⟨j852_188, ej852_188, hf⟩ := jn_s hf
      have hj852_188 : ∀ (t188 : Int32), j852_188 t188 = some (r, pr) → JA g (WCL cI cS cJ ad al p5) 19 852 [some (.ref (ad 0)), some (.ref (al 0)), some (.ref (al 1)), some (.ref (al 2)), some (.int a4), some (.int r2), some (.int t6), none, none, none, none, none, none, none, none, none, none, none, none] [.int t188] := by
        intro t188 hf
        have hf := jE1 ej852_188 hf
        refine j_istore (pc := 852) X dL_acts_852 (Nat.le_of_ble_eq_true rfl) (lv' := [some (.ref (ad 0)), some (.ref (al 0)), some (.ref (al 1)), some (.ref (al 2)), some (.int a4), some (.int r2), some (.int t6), none, none, none, none, none, none, none, some (.int t188), none, none, none, none]) rfl ?_
        refine j_aload_n (pc := 854) X dL_acts_854 rfl ?_
        refine j_iload (pc := 855) X dL_acts_855 rfl ?_
        obtain ⟨b190, hf⟩ := gIn_s hf
        refine a_iald (pc := 857) X wcl_1 b190 dL_acts_857 ?_
        refine j_istore (pc := 858) X dL_acts_858 (Nat.le_of_ble_eq_true rfl) (lv' := [some (.ref (ad 0)), some (.ref (al 0)), some (.ref (al 1)), some (.ref (al 2)), some (.int a4), some (.int r2), some (.int t6), none, none, none, none, none, none, none, some (.int t188), some (.int (p5.2 1 t188.toNatClampNeg)), none, none, none]) rfl ?_
        refine j_aload_n (pc := 860) X dL_acts_860 rfl ?_
        refine j_iload (pc := 861) X dL_acts_861 rfl ?_
        refine j_iconst (pc := 863) X dL_acts_863 kcL_1 ?_
        refine j_iload (pc := 864) X dL_acts_864 rfl ?_
        refine j_sipush (pc := 866) X dL_acts_866 ksL_130 ?_
        obtain ⟨z191, hf⟩ := gNz_s hf
        refine j_idiv (pc := 869) X dL_acts_869 z191 ?_
        refine j_bipush (pc := 870) X dL_acts_870 kbL_9 ?_
        obtain ⟨z192, hf⟩ := gNz_s hf
        refine j_irem (pc := 872) X dL_acts_872 z192 ?_
        refine j_iadd (pc := 873) X dL_acts_873 ?_
        obtain ⟨b193, hf⟩ := gIn_s hf
        obtain ⟨p194, ep194, hf⟩ := jn_s hf
        refine a_iast (W1 := (WCL cI cS cJ ad al p194)) (pc := 874) X hA (hD _) (al_A (by decide)) wcl_1 b193 dL_acts_874 (by rw [ep194]; exact scl_1 _) ?_
        refine j_iload (pc := 875) X dL_acts_875 rfl ?_
        obtain ⟨j903_196, ej903_196, hf⟩ := jn_s hf
        have hj903_196 : ∀ (t195 : Int32) (p196 : kS × kS), j903_196 t195 p196 = some (r, pr) → JA g (WCL cI cS cJ ad al p196) 19 903 [some (.ref (ad 0)), some (.ref (al 0)), some (.ref (al 1)), some (.ref (al 2)), some (.int a4), some (.int r2), some (.int t6), none, none, none, none, none, none, none, some (.int t188), some (.int (p5.2 1 t188.toNatClampNeg)), none, none, none] [.int t195] := by
          intro t195 p196 hf
          have hf := jE2 ej903_196 hf
          exact a_retWB (Wf := WCL cI cS cJ ad al) hR dL_acts_903 hf
        refine j_if_eq (tgt := 902) (pc := 877) X dL_acts_877 rfl (fun c198 => ?_) (fun c198 => ?_)
        · have hf := kT c198 hf
          refine j_iconst (pc := 902) X dL_acts_902 kcL_0 ?_
          exact hj903_196 _ _ hf
        · have hf := kF c198 hf
          refine j_aload_n (pc := 880) X dL_acts_880 rfl ?_
          refine j_bipush (pc := 881) X dL_acts_881 kbL_97 ?_
          refine j_iload (pc := 883) X dL_acts_883 rfl ?_
          refine j_iadd (pc := 885) X dL_acts_885 ?_
          refine j_aload_n (pc := 886) X dL_acts_886 rfl ?_
          refine j_iload (pc := 887) X dL_acts_887 rfl ?_
          obtain ⟨b199, hf⟩ := gIn_s hf
          refine a_iald (pc := 889) X wcl_1 b199 dL_acts_889 ?_
          obtain ⟨r201, h200, hf⟩ := kB hf
          refine a_cW (pc := 890) X hA hI (c_X8_widen hI.1 N p194.1 (97 + t188) (p194.2 1 t188.toNatClampNeg) h200) gL_acts_X8_widen rfl ⟨rfl, rfl⟩ rfl hd_X8_widen ⟨(Nat.le_of_ble_eq_true rfl), (Nat.le_of_ble_eq_true rfl)⟩ rfl (Nat.le_of_ble_eq_true rfl) rfl dL_acts_890 ?_
          obtain ⟨p202, ep202, hf⟩ := jn_s hf
          rw [← ep202]
          refine j_iload (pc := 893) X dL_acts_893 rfl ?_
          refine j_icmp_ne (tgt := 902) (pc := 895) X dL_acts_895 rfl (fun c203 => ?_) (fun c203 => ?_)
          · have hf := kF c203 hf
            refine j_iconst (pc := 902) X dL_acts_902 kcL_0 ?_
            exact hj903_196 _ _ hf
          · have hf := kT c203 hf
            refine j_iconst (pc := 898) X dL_acts_898 kcL_1 ?_
            refine j_goto (tgt := 903) (pc := 899) X dL_acts_899 rfl ?_
            exact hj903_196 _ _ hf
      refine j_if_ne (tgt := 843) (pc := 830) X dL_acts_830 rfl (fun c204 => ?_) (fun c204 => ?_)
      · have hf := kF c204 hf
        refine j_iload (pc := 843) X dL_acts_843 rfl ?_
        refine j_iconst (pc := 845) X dL_acts_845 kcL_1 ?_
        obtain ⟨r206, h205, hf⟩ := kB hf
        refine a_callLP (pc := 846) X (c_L_letters N r2 1 h205) gL_acts_L_letters rfl ⟨rfl, rfl⟩ hd_L_letters ⟨(Nat.le_of_ble_eq_true rfl), (Nat.le_of_ble_eq_true rfl)⟩ rfl (Nat.le_of_ble_eq_true rfl) rfl dL_acts_846 ?_
        refine j_l2i (pc := 849) X dL_acts_849 ?_
        refine j_iconst (pc := 850) X dL_acts_850 kcL_1 ?_
        refine j_isub (pc := 851) X dL_acts_851 ?_
        exact hj852_188 _ hf
      · have hf := kT c204 hf
        refine j_iload (pc := 833) X dL_acts_833 rfl ?_
        refine j_iconst (pc := 835) X dL_acts_835 kcL_5 ?_
        obtain ⟨z207, hf⟩ := gNz_s hf
        refine j_idiv (pc := 836) X dL_acts_836 z207 ?_
        refine j_bipush (pc := 837) X dL_acts_837 kbL_26 ?_
        obtain ⟨z208, hf⟩ := gNz_s hf
        refine j_irem (pc := 839) X dL_acts_839 z208 ?_
        refine j_goto (tgt := 852) (pc := 840) X dL_acts_840 rfl ?_
        exact hj852_188 _ hf
    rcases Decidable.em (r9 = 0) with c209 | c209
    · have hf := kT c209 hf
      refine j_tabIn (v := 0) (off := 68) (tgt := 100) (pc := 32) X dL_acts_32 c209 (by decide) (by decide) (by decide) rfl ?_
      exact hj100_9 () hf
    · have hf := kF c209 hf
      rcases Decidable.em (r9 = 1) with c210 | c210
      · have hf := kT c210 hf
        refine j_tabIn (v := 1) (off := 68) (tgt := 100) (pc := 32) X dL_acts_32 c210 (by decide) (by decide) (by decide) rfl ?_
        exact hj100_9 () hf
      · have hf := kF c210 hf
        rcases Decidable.em (r9 = 2) with c211 | c211
        · have hf := kT c211 hf
          refine j_tabIn (v := 2) (off := 68) (tgt := 100) (pc := 32) X dL_acts_32 c211 (by decide) (by decide) (by decide) rfl ?_
          exact hj100_9 () hf
        · have hf := kF c211 hf
          rcases Decidable.em (r9 = 3) with c212 | c212
          · have hf := kT c212 hf
            refine j_tabIn (v := 3) (off := 228) (tgt := 260) (pc := 32) X dL_acts_32 c212 (by decide) (by decide) (by decide) rfl ?_
            exact hj260_65 () hf
          · have hf := kF c212 hf
            rcases Decidable.em (r9 = 4) with c213 | c213
            · have hf := kT c213 hf
              refine j_tabIn (v := 4) (off := 228) (tgt := 260) (pc := 32) X dL_acts_32 c213 (by decide) (by decide) (by decide) rfl ?_
              exact hj260_65 () hf
            · have hf := kF c213 hf
              rcases Decidable.em (r9 = 5) with c214 | c214
              · have hf := kT c214 hf
                refine j_tabIn (v := 5) (off := 228) (tgt := 260) (pc := 32) X dL_acts_32 c214 (by decide) (by decide) (by decide) rfl ?_
                exact hj260_65 () hf
              · have hf := kF c214 hf
                rcases Decidable.em (r9 = 6) with c215 | c215
                · have hf := kT c215 hf
                  refine j_tabIn (v := 6) (off := 228) (tgt := 260) (pc := 32) X dL_acts_32 c215 (by decide) (by decide) (by decide) rfl ?_
                  exact hj260_65 () hf
                · have hf := kF c215 hf
                  rcases Decidable.em (r9 = 7) with c216 | c216
                  · have hf := kT c216 hf
                    refine j_tabIn (v := 7) (off := 404) (tgt := 436) (pc := 32) X dL_acts_32 c216 (by decide) (by decide) (by decide) rfl ?_
                    exact hj436_124 () hf
                  · have hf := kF c216 hf
                    rcases Decidable.em (r9 = 8) with c217 | c217
                    · have hf := kT c217 hf
                      refine j_tabIn (v := 8) (off := 404) (tgt := 436) (pc := 32) X dL_acts_32 c217 (by decide) (by decide) (by decide) rfl ?_
                      exact hj436_124 () hf
                    · have hf := kF c217 hf
                      rcases Decidable.em (r9 = 9) with c218 | c218
                      · have hf := kT c218 hf
                        refine j_tabIn (v := 9) (off := 577) (tgt := 609) (pc := 32) X dL_acts_32 c218 (by decide) (by decide) (by decide) rfl ?_
                        refine j_aload_n (pc := 609) X dL_acts_609 rfl ?_
                        refine j_bipush (pc := 610) X dL_acts_610 kbL_6 ?_
                        obtain ⟨b219, hf⟩ := gIn_s hf
                        refine a_iald (pc := 612) X wcl_0 b219 dL_acts_612 ?_
                        obtain ⟨j623_219, ej623_219, hf⟩ := jn_s hf
                        have hj623_219 : ∀ (_ : Unit), j623_219 = some (r, pr) → JA g (WCL cI cS cJ ad al p5) 19 623 [some (.ref (ad 0)), some (.ref (al 0)), some (.ref (al 1)), some (.ref (al 2)), some (.int a4), some (.int r2), some (.int t6), none, none, none, none, none, none, none, none, none, none, none, none] [] := by
                          intro _ hf
                          have hf := jE0 ej623_219 hf
                          refine j_iload (pc := 623) X dL_acts_623 rfl ?_
                          obtain ⟨j646_222, ej646_222, hf⟩ := jn_s hf
                          have hj646_222 : ∀ (t221 : Int32) (p222 : kS × kS), j646_222 t221 p222 = some (r, pr) → JA g (WCL cI cS cJ ad al p222) 19 646 [some (.ref (ad 0)), some (.ref (al 0)), some (.ref (al 1)), some (.ref (al 2)), some (.int a4), some (.int r2), some (.int t6), none, none, none, none, none, none, none, none, none, none, none, none] [.int t221] := by
                            intro t221 p222 hf
                            have hf := jE2 ej646_222 hf
                            exact a_retWB (Wf := WCL cI cS cJ ad al) hR dL_acts_646 hf
                          refine j_if_eq (tgt := 645) (pc := 625) X dL_acts_625 rfl (fun c224 => ?_) (fun c224 => ?_)
                          · have hf := kT c224 hf
                            refine j_iconst (pc := 645) X dL_acts_645 kcL_0 ?_
                            exact hj646_222 _ _ hf
                          · have hf := kF c224 hf
                            refine j_aload_n (pc := 628) X dL_acts_628 rfl ?_
                            refine j_aload_n (pc := 629) X dL_acts_629 rfl ?_
                            refine j_bipush (pc := 630) X dL_acts_630 kbL_6 ?_
                            obtain ⟨b225, hf⟩ := gIn_s hf
                            refine a_iald (pc := 632) X wcl_0 b225 dL_acts_632 ?_
                            obtain ⟨r227, h226, hf⟩ := kB hf
                            refine a_cW (pc := 633) X hA hI (c_X8_dropName hI.1 N p5.1 (p5.2 0 (6 : Int32).toNatClampNeg) h226) gL_acts_X8_dropName rfl ⟨rfl, rfl⟩ rfl hd_X8_dropName ⟨(Nat.le_of_ble_eq_true rfl), (Nat.le_of_ble_eq_true rfl)⟩ rfl (Nat.le_of_ble_eq_true rfl) rfl dL_acts_633 ?_
                            obtain ⟨p228, ep228, hf⟩ := jn_s hf
                            rw [← ep228]
                            refine j_bipush (pc := 636) X dL_acts_636 kbL_m11 ?_
                            refine j_icmp_ne (tgt := 645) (pc := 638) X dL_acts_638 rfl (fun c229 => ?_) (fun c229 => ?_)
                            · have hf := kF c229 hf
                              refine j_iconst (pc := 645) X dL_acts_645 kcL_0 ?_
                              exact hj646_222 _ _ hf
                            · have hf := kT c229 hf
                              refine j_iconst (pc := 641) X dL_acts_641 kcL_1 ?_
                              refine j_goto (tgt := 646) (pc := 642) X dL_acts_642 rfl ?_
                              exact hj646_222 _ _ hf
                        refine j_if_eq (tgt := 623) (pc := 613) X dL_acts_613 rfl (fun c230 => ?_) (fun c230 => ?_)
                        · have hf := kT c230 hf
                          exact hj623_219 () hf
                        · have hf := kF c230 hf
                          refine j_iload (pc := 616) X dL_acts_616 rfl ?_
                          refine j_iconst (pc := 618) X dL_acts_618 kcL_3 ?_
                          obtain ⟨z231, hf⟩ := gNz_s hf
                          refine j_irem (pc := 619) X dL_acts_619 z231 ?_
                          refine j_if_le (tgt := 647) (pc := 620) X dL_acts_620 rfl (fun c232 => ?_) (fun c232 => ?_)
                          · have hf := kT c232 hf
                            refine j_iload (pc := 647) X dL_acts_647 rfl ?_
                            refine j_iconst (pc := 649) X dL_acts_649 kcL_3 ?_
                            obtain ⟨z233, hf⟩ := gNz_s hf
                            refine j_idiv (pc := 650) X dL_acts_650 z233 ?_
                            refine j_aload_n (pc := 651) X dL_acts_651 rfl ?_
                            refine j_bipush (pc := 652) X dL_acts_652 kbL_6 ?_
                            obtain ⟨b234, hf⟩ := gIn_s hf
                            refine a_iald (pc := 654) X wcl_0 b234 dL_acts_654 ?_
                            obtain ⟨z235, hf⟩ := gNz_s hf
                            refine j_irem (pc := 655) X dL_acts_655 z235 ?_
                            obtain ⟨x236, ex236, hf⟩ := jn_s hf
                            refine j_istore (pc := 656) X dL_acts_656 (Nat.le_of_ble_eq_true rfl) (lv' := [some (.ref (ad 0)), some (.ref (al 0)), some (.ref (al 1)), some (.ref (al 2)), some (.int a4), some (.int r2), some (.int t6), none, none, none, none, none, none, some (.int x236), none, none, none, none, none]) (by rw [ex236]; rfl) ?_
                            refine j_bipush (pc := 658) X dL_acts_658 kbL_8 ?_
                            refine j_iload (pc := 660) X dL_acts_660 rfl ?_
                            refine j_iadd (pc := 662) X dL_acts_662 ?_
                            refine j_istore (pc := 663) X dL_acts_663 (Nat.le_of_ble_eq_true rfl) (lv' := [some (.ref (ad 0)), some (.ref (al 0)), some (.ref (al 1)), some (.ref (al 2)), some (.int a4), some (.int r2), some (.int t6), none, none, none, none, none, none, some (.int x236), some (.int (8 + x236)), none, none, none, none]) rfl ?_
                            obtain ⟨k688_237, ek688_237, hf⟩ := jn_s hf
                            have hk688_237 : ∀ (p237 : kS × kS), k688_237 p237 = some (r, pr) → JA g (WCL cI cS cJ ad al p237) 19 688 [some (.ref (ad 0)), some (.ref (al 0)), some (.ref (al 1)), some (.ref (al 2)), some (.int a4), some (.int r2), some (.int t6), none, none, none, none, none, none, some (.int x236), none, none, none, none, none] [] := by
                              intro p237 hf
                              have hf := jE1 ek688_237 hf
                              refine j_aload_n (pc := 688) X dL_acts_688 rfl ?_
                              refine j_bipush (pc := 689) X dL_acts_689 kbL_6 ?_
                              refine j_dup2 (pc := 691) X dL_acts_691 rfl rfl ?_
                              obtain ⟨b239, hf⟩ := gIn_s hf
                              refine a_iald (pc := 692) X wcl_0 b239 dL_acts_692 ?_
                              refine j_iconst (pc := 693) X dL_acts_693 kcL_1 ?_
                              refine j_isub (pc := 694) X dL_acts_694 ?_
                              obtain ⟨b240, hf⟩ := gIn_s hf
                              obtain ⟨p241, ep241, hf⟩ := jn_s hf
                              refine a_iast (W1 := (WCL cI cS cJ ad al p241)) (pc := 695) X hA (hD _) (al_A (by decide)) wcl_0 b240 dL_acts_695 (by rw [ep241]; exact scl_0 _) ?_
                              refine j_iload (pc := 696) X dL_acts_696 rfl ?_
                              obtain ⟨j719_243, ej719_243, hf⟩ := jn_s hf
                              have hj719_243 : ∀ (t242 : Int32) (p243 : kS × kS), j719_243 t242 p243 = some (r, pr) → JA g (WCL cI cS cJ ad al p243) 19 719 [some (.ref (ad 0)), some (.ref (al 0)), some (.ref (al 1)), some (.ref (al 2)), some (.int a4), some (.int r2), some (.int t6), none, none, none, none, none, none, some (.int x236), none, none, none, none, none] [.int t242] := by
                                intro t242 p243 hf
                                have hf := jE2 ej719_243 hf
                                exact a_retWB (Wf := WCL cI cS cJ ad al) hR dL_acts_719 hf
                              refine j_if_eq (tgt := 718) (pc := 698) X dL_acts_698 rfl (fun c245 => ?_) (fun c245 => ?_)
                              · have hf := kT c245 hf
                                refine j_iconst (pc := 718) X dL_acts_718 kcL_0 ?_
                                exact hj719_243 _ _ hf
                              · have hf := kF c245 hf
                                refine j_aload_n (pc := 701) X dL_acts_701 rfl ?_
                                refine j_iload (pc := 702) X dL_acts_702 rfl ?_
                                obtain ⟨r247, h246, hf⟩ := kB hf
                                refine a_cW (pc := 704) X hA hI (c_X8_dropName hI.1 N p241.1 x236 h246) gL_acts_X8_dropName rfl ⟨rfl, rfl⟩ rfl hd_X8_dropName ⟨(Nat.le_of_ble_eq_true rfl), (Nat.le_of_ble_eq_true rfl)⟩ rfl (Nat.le_of_ble_eq_true rfl) rfl dL_acts_704 ?_
                                obtain ⟨p248, ep248, hf⟩ := jn_s hf
                                rw [← ep248]
                                refine j_aload_n (pc := 707) X dL_acts_707 rfl ?_
                                refine j_bipush (pc := 708) X dL_acts_708 kbL_6 ?_
                                obtain ⟨b249, hf⟩ := gIn_s hf
                                refine a_iald (pc := 710) X wcl_0 b249 dL_acts_710 ?_
                                refine j_icmp_ne (tgt := 718) (pc := 711) X dL_acts_711 rfl (fun c250 => ?_) (fun c250 => ?_)
                                · have hf := kF c250 hf
                                  refine j_iconst (pc := 718) X dL_acts_718 kcL_0 ?_
                                  exact hj719_243 _ _ hf
                                · have hf := kT c250 hf
                                  refine j_iconst (pc := 714) X dL_acts_714 kcL_1 ?_
                                  refine j_goto (tgt := 719) (pc := 715) X dL_acts_715 rfl ?_
                                  exact hj719_243 _ _ hf
                            exact lt_L_acts_665 X hE hA hI hZ hD hR N a4 r2 t6 x236 k688_237 hk688_237 N _ _ hf
                          · have hf := kF c232 hf
                            exact hj623_219 () hf
                      · have hf := kF c218 hf
                        rcases Decidable.em (r9 = 10) with c257 | c257
                        · have hf := kT c257 hf
                          refine j_tabIn (v := 10) (off := 688) (tgt := 720) (pc := 32) X dL_acts_32 c257 (by decide) (by decide) (by decide) rfl ?_
                          refine j_aload_n (pc := 720) X dL_acts_720 rfl ?_
                          refine j_bipush (pc := 721) X dL_acts_721 kbL_7 ?_
                          obtain ⟨b258, hf⟩ := gIn_s hf
                          refine a_iald (pc := 723) X wcl_0 b258 dL_acts_723 ?_
                          obtain ⟨j734_258, ej734_258, hf⟩ := jn_s hf
                          have hj734_258 : ∀ (_ : Unit), j734_258 = some (r, pr) → JA g (WCL cI cS cJ ad al p5) 19 734 [some (.ref (ad 0)), some (.ref (al 0)), some (.ref (al 1)), some (.ref (al 2)), some (.int a4), some (.int r2), some (.int t6), none, none, none, none, none, none, none, none, none, none, none, none] [] := by
                            intro _ hf
                            have hf := jE0 ej734_258 hf
                            refine j_iload (pc := 734) X dL_acts_734 rfl ?_
                            obtain ⟨j757_261, ej757_261, hf⟩ := jn_s hf
                            have hj757_261 : ∀ (t260 : Int32) (p261 : kS × kS), j757_261 t260 p261 = some (r, pr) → JA g (WCL cI cS cJ ad al p261) 19 757 [some (.ref (ad 0)), some (.ref (al 0)), some (.ref (al 1)), some (.ref (al 2)), some (.int a4), some (.int r2), some (.int t6), none, none, none, none, none, none, none, none, none, none, none, none] [.int t260] := by
                              intro t260 p261 hf
                              have hf := jE2 ej757_261 hf
                              exact a_retWB (Wf := WCL cI cS cJ ad al) hR dL_acts_757 hf
                            refine j_if_eq (tgt := 756) (pc := 736) X dL_acts_736 rfl (fun c263 => ?_) (fun c263 => ?_)
                            · have hf := kT c263 hf
                              refine j_iconst (pc := 756) X dL_acts_756 kcL_0 ?_
                              exact hj757_261 _ _ hf
                            · have hf := kF c263 hf
                              refine j_aload_n (pc := 739) X dL_acts_739 rfl ?_
                              refine j_aload_n (pc := 740) X dL_acts_740 rfl ?_
                              refine j_bipush (pc := 741) X dL_acts_741 kbL_7 ?_
                              obtain ⟨b264, hf⟩ := gIn_s hf
                              refine a_iald (pc := 743) X wcl_0 b264 dL_acts_743 ?_
                              obtain ⟨r266, h265, hf⟩ := kB hf
                              refine a_cW (pc := 744) X hA hI (c_X8_dropEnding hI.1 N p5.1 (p5.2 0 (7 : Int32).toNatClampNeg) h265) gL_acts_X8_dropEnding rfl ⟨rfl, rfl⟩ rfl hd_X8_dropEnding ⟨(Nat.le_of_ble_eq_true rfl), (Nat.le_of_ble_eq_true rfl)⟩ rfl (Nat.le_of_ble_eq_true rfl) rfl dL_acts_744 ?_
                              obtain ⟨p267, ep267, hf⟩ := jn_s hf
                              rw [← ep267]
                              refine j_bipush (pc := 747) X dL_acts_747 kbL_m11 ?_
                              refine j_icmp_ne (tgt := 756) (pc := 749) X dL_acts_749 rfl (fun c268 => ?_) (fun c268 => ?_)
                              · have hf := kF c268 hf
                                refine j_iconst (pc := 756) X dL_acts_756 kcL_0 ?_
                                exact hj757_261 _ _ hf
                              · have hf := kT c268 hf
                                refine j_iconst (pc := 752) X dL_acts_752 kcL_1 ?_
                                refine j_goto (tgt := 757) (pc := 753) X dL_acts_753 rfl ?_
                                exact hj757_261 _ _ hf
                          refine j_if_eq (tgt := 734) (pc := 724) X dL_acts_724 rfl (fun c269 => ?_) (fun c269 => ?_)
                          · have hf := kT c269 hf
                            exact hj734_258 () hf
                          · have hf := kF c269 hf
                            refine j_iload (pc := 727) X dL_acts_727 rfl ?_
                            refine j_iconst (pc := 729) X dL_acts_729 kcL_3 ?_
                            obtain ⟨z270, hf⟩ := gNz_s hf
                            refine j_irem (pc := 730) X dL_acts_730 z270 ?_
                            refine j_if_le (tgt := 758) (pc := 731) X dL_acts_731 rfl (fun c271 => ?_) (fun c271 => ?_)
                            · have hf := kT c271 hf
                              refine j_aload_n (pc := 758) X dL_acts_758 rfl ?_
                              refine j_bipush (pc := 759) X dL_acts_759 kbL_12 ?_
                              refine j_iload (pc := 761) X dL_acts_761 rfl ?_
                              refine j_iconst (pc := 763) X dL_acts_763 kcL_3 ?_
                              obtain ⟨z272, hf⟩ := gNz_s hf
                              refine j_idiv (pc := 764) X dL_acts_764 z272 ?_
                              refine j_aload_n (pc := 765) X dL_acts_765 rfl ?_
                              refine j_bipush (pc := 766) X dL_acts_766 kbL_7 ?_
                              obtain ⟨b273, hf⟩ := gIn_s hf
                              refine a_iald (pc := 768) X wcl_0 b273 dL_acts_768 ?_
                              obtain ⟨z274, hf⟩ := gNz_s hf
                              refine j_irem (pc := 769) X dL_acts_769 z274 ?_
                              obtain ⟨j784_275, ej784_275, hf⟩ := jn_s hf
                              have hj784_275 : ∀ (t275 : Int64), j784_275 t275 = some (r, pr) → JA g (WCL cI cS cJ ad al p5) 19 784 [some (.ref (ad 0)), some (.ref (al 0)), some (.ref (al 1)), some (.ref (al 2)), some (.int a4), some (.int r2), some (.int t6), none, none, none, none, none, none, none, none, none, none, none, none] [.long t275, .int 12, .ref (al 2)] := by
                                intro t275 hf
                                have hf := jE1 ej784_275 hf
                                obtain ⟨b277, hf⟩ := gIn_s hf
                                obtain ⟨gb277, hf⟩ := gL_s hf
                                obtain ⟨p278, ep278, hf⟩ := jn_s hf
                                refine a_last (W1 := (WCL cI cS cJ ad al p278)) (pc := 784) X hE hA (hD _) (al_A (by decide)) wcl_2 b277 dL_acts_784 (by rw [ep278]; exact scl_2 _ _ _ gb277) ?_
                                refine j_aload_n (pc := 785) X dL_acts_785 rfl ?_
                                refine j_bipush (pc := 786) X dL_acts_786 kbL_7 ?_
                                refine j_dup2 (pc := 788) X dL_acts_788 rfl rfl ?_
                                obtain ⟨b279, hf⟩ := gIn_s hf
                                refine a_iald (pc := 789) X wcl_0 b279 dL_acts_789 ?_
                                refine j_iconst (pc := 790) X dL_acts_790 kcL_1 ?_
                                refine j_isub (pc := 791) X dL_acts_791 ?_
                                obtain ⟨b280, hf⟩ := gIn_s hf
                                obtain ⟨p281, ep281, hf⟩ := jn_s hf
                                refine a_iast (W1 := (WCL cI cS cJ ad al p281)) (pc := 792) X hA (hD _) (al_A (by decide)) wcl_0 b280 dL_acts_792 (by rw [ep281]; exact scl_0 _) ?_
                                refine j_iload (pc := 793) X dL_acts_793 rfl ?_
                                obtain ⟨j825_283, ej825_283, hf⟩ := jn_s hf
                                have hj825_283 : ∀ (t282 : Int32) (p283 : kS × kS), j825_283 t282 p283 = some (r, pr) → JA g (WCL cI cS cJ ad al p283) 19 825 [some (.ref (ad 0)), some (.ref (al 0)), some (.ref (al 1)), some (.ref (al 2)), some (.int a4), some (.int r2), some (.int t6), none, none, none, none, none, none, none, none, none, none, none, none] [.int t282] := by
                                  intro t282 p283 hf
                                  have hf := jE2 ej825_283 hf
                                  exact a_retWB (Wf := WCL cI cS cJ ad al) hR dL_acts_825 hf
                                refine j_if_eq (tgt := 824) (pc := 795) X dL_acts_795 rfl (fun c285 => ?_) (fun c285 => ?_)
                                · have hf := kT c285 hf
                                  refine j_iconst (pc := 824) X dL_acts_824 kcL_0 ?_
                                  exact hj825_283 _ _ hf
                                · have hf := kF c285 hf
                                  refine j_aload_n (pc := 798) X dL_acts_798 rfl ?_
                                  refine j_iload (pc := 799) X dL_acts_799 rfl ?_
                                  refine j_iconst (pc := 801) X dL_acts_801 kcL_3 ?_
                                  obtain ⟨z286, hf⟩ := gNz_s hf
                                  refine j_idiv (pc := 802) X dL_acts_802 z286 ?_
                                  refine j_aload_n (pc := 803) X dL_acts_803 rfl ?_
                                  refine j_bipush (pc := 804) X dL_acts_804 kbL_7 ?_
                                  obtain ⟨b287, hf⟩ := gIn_s hf
                                  refine a_iald (pc := 806) X wcl_0 b287 dL_acts_806 ?_
                                  refine j_iconst (pc := 807) X dL_acts_807 kcL_1 ?_
                                  refine j_iadd (pc := 808) X dL_acts_808 ?_
                                  obtain ⟨z288, hf⟩ := gNz_s hf
                                  refine j_irem (pc := 809) X dL_acts_809 z288 ?_
                                  obtain ⟨r290, h289, hf⟩ := kB hf
                                  refine a_cW (pc := 810) X hA hI (c_X8_dropEnding hI.1 N p281.1 ((r2 / 3) - (r2 / 3) / ((p281.2 0 (7 : Int32).toNatClampNeg) + 1) * ((p281.2 0 (7 : Int32).toNatClampNeg) + 1)) h289) gL_acts_X8_dropEnding rfl ⟨rfl, rfl⟩ rfl hd_X8_dropEnding ⟨(Nat.le_of_ble_eq_true rfl), (Nat.le_of_ble_eq_true rfl)⟩ rfl (Nat.le_of_ble_eq_true rfl) rfl dL_acts_810 ?_
                                  obtain ⟨p291, ep291, hf⟩ := jn_s hf
                                  rw [← ep291]
                                  refine j_aload_n (pc := 813) X dL_acts_813 rfl ?_
                                  refine j_bipush (pc := 814) X dL_acts_814 kbL_7 ?_
                                  obtain ⟨b292, hf⟩ := gIn_s hf
                                  refine a_iald (pc := 816) X wcl_0 b292 dL_acts_816 ?_
                                  refine j_icmp_ne (tgt := 824) (pc := 817) X dL_acts_817 rfl (fun c293 => ?_) (fun c293 => ?_)
                                  · have hf := kF c293 hf
                                    refine j_iconst (pc := 824) X dL_acts_824 kcL_0 ?_
                                    exact hj825_283 _ _ hf
                                  · have hf := kT c293 hf
                                    refine j_iconst (pc := 820) X dL_acts_820 kcL_1 ?_
                                    refine j_goto (tgt := 825) (pc := 821) X dL_acts_821 rfl ?_
                                    exact hj825_283 _ _ hf
                              refine j_if_ne (tgt := 780) (pc := 770) X dL_acts_770 rfl (fun c294 => ?_) (fun c294 => ?_)
                              · have hf := kF c294 hf
                                refine j_aload_n (pc := 780) X dL_acts_780 rfl ?_
                                refine j_bipush (pc := 781) X dL_acts_781 kbL_12 ?_
                                obtain ⟨b295, hf⟩ := gIn_s hf
                                refine a_lald (pc := 783) X hE wcl_2 b295 dL_acts_783 ?_
                                exact hj784_275 _ hf
                              · have hf := kT c294 hf
                                refine j_aload_n (pc := 773) X dL_acts_773 rfl ?_
                                refine j_bipush (pc := 774) X dL_acts_774 kbL_13 ?_
                                obtain ⟨b296, hf⟩ := gIn_s hf
                                refine a_lald (pc := 776) X hE wcl_2 b296 dL_acts_776 ?_
                                refine j_goto (tgt := 784) (pc := 777) X dL_acts_777 rfl ?_
                                exact hj784_275 _ hf
                            · have hf := kF c271 hf
                              exact hj734_258 () hf
                        · have hf := kF c257 hf
                          rcases Decidable.em (r9 = 11) with c297 | c297
                          · have hf := kT c297 hf
                            refine j_tabIn (v := 11) (off := 794) (tgt := 826) (pc := 32) X dL_acts_32 c297 (by decide) (by decide) (by decide) rfl ?_
                            exact hj826_185 () hf
                          · have hf := kF c297 hf
                            rcases Decidable.em (r9 = 12) with c298 | c298
                            · have hf := kT c298 hf
                              refine j_tabIn (v := 12) (off := 794) (tgt := 826) (pc := 32) X dL_acts_32 c298 (by decide) (by decide) (by decide) rfl ?_
                              exact hj826_185 () hf
                            · have hf := kF c298 hf
                              refine j_tabOut (tgt := 904) (pc := 32) X dL_acts_32 (by have gc209 := lv_neT (a := 0) c209 (by decide); have gc210 := lv_neT (a := 1) c210 (by decide); have gc211 := lv_neT (a := 2) c211 (by decide); have gc212 := lv_neT (a := 3) c212 (by decide); have gc213 := lv_neT (a := 4) c213 (by decide); have gc214 := lv_neT (a := 5) c214 (by decide); have gc215 := lv_neT (a := 6) c215 (by decide); have gc216 := lv_neT (a := 7) c216 (by decide); have gc217 := lv_neT (a := 8) c217 (by decide); have gc218 := lv_neT (a := 9) c218 (by decide); have gc257 := lv_neT (a := 10) c257 (by decide); have gc297 := lv_neT (a := 11) c297 (by decide); have gc298 := lv_neT (a := 12) c298 (by decide); omega) rfl ?_
                              refine j_iload (pc := 904) X dL_acts_904 rfl ?_
                              refine j_iconst (pc := 906) X dL_acts_906 kcL_5 ?_
                              obtain ⟨z299, hf⟩ := gNz_s hf
                              refine j_irem (pc := 907) X dL_acts_907 z299 ?_
                              refine j_istore (pc := 908) X dL_acts_908 (Nat.le_of_ble_eq_true rfl) (lv' := [some (.ref (ad 0)), some (.ref (al 0)), some (.ref (al 1)), some (.ref (al 2)), some (.int a4), some (.int r2), some (.int t6), none, none, none, none, none, none, none, none, none, some (.int (r2 - r2 / 5 * 5)), none, none]) rfl ?_
                              refine j_iload (pc := 910) X dL_acts_910 rfl ?_
                              obtain ⟨j1001_300, ej1001_300, hf⟩ := jn_s hf
                              have hj1001_300 : ∀ (t300 : Int32), j1001_300 t300 = some (r, pr) → JA g (WCL cI cS cJ ad al p5) 19 1001 [some (.ref (ad 0)), some (.ref (al 0)), some (.ref (al 1)), some (.ref (al 2)), some (.int a4), some (.int r2), some (.int t6), none, none, none, none, none, none, none, none, none, some (.int (r2 - r2 / 5 * 5)), none, none] [.int t300] := by
                                intro t300 hf
                                have hf := jE1 ej1001_300 hf
                                refine j_istore (pc := 1001) X dL_acts_1001 (Nat.le_of_ble_eq_true rfl) (lv' := [some (.ref (ad 0)), some (.ref (al 0)), some (.ref (al 1)), some (.ref (al 2)), some (.int a4), some (.int r2), some (.int t6), none, none, none, none, none, none, none, none, none, some (.int (r2 - r2 / 5 * 5)), some (.int t300), none]) rfl ?_
                                refine j_aload_n (pc := 1003) X dL_acts_1003 rfl ?_
                                refine j_iload (pc := 1004) X dL_acts_1004 rfl ?_
                                obtain ⟨b302, hf⟩ := gIn_s hf
                                refine a_iald (pc := 1006) X wcl_0 b302 dL_acts_1006 ?_
                                refine j_istore (pc := 1007) X dL_acts_1007 (Nat.le_of_ble_eq_true rfl) (lv' := [some (.ref (ad 0)), some (.ref (al 0)), some (.ref (al 1)), some (.ref (al 2)), some (.int a4), some (.int r2), some (.int t6), none, none, none, none, none, none, none, none, none, some (.int (r2 - r2 / 5 * 5)), some (.int t300), some (.int (p5.2 0 (r2 - r2 / 5 * 5).toNatClampNeg))]) rfl ?_
                                refine j_aload_n (pc := 1009) X dL_acts_1009 rfl ?_
                                refine j_iload (pc := 1010) X dL_acts_1010 rfl ?_
                                refine j_iload (pc := 1012) X dL_acts_1012 rfl ?_
                                obtain ⟨b303, hf⟩ := gIn_s hf
                                obtain ⟨p304, ep304, hf⟩ := jn_s hf
                                refine a_iast (W1 := (WCL cI cS cJ ad al p304)) (pc := 1014) X hA (hD _) (al_A (by decide)) wcl_0 b303 dL_acts_1014 (by rw [ep304]; exact scl_0 _) ?_
                                refine j_iload (pc := 1015) X dL_acts_1015 rfl ?_
                                obtain ⟨j1038_306, ej1038_306, hf⟩ := jn_s hf
                                have hj1038_306 : ∀ (t305 : Int32) (p306 : kS × kS), j1038_306 t305 p306 = some (r, pr) → JA g (WCL cI cS cJ ad al p306) 19 1038 [some (.ref (ad 0)), some (.ref (al 0)), some (.ref (al 1)), some (.ref (al 2)), some (.int a4), some (.int r2), some (.int t6), none, none, none, none, none, none, none, none, none, some (.int (r2 - r2 / 5 * 5)), some (.int t300), some (.int (p5.2 0 (r2 - r2 / 5 * 5).toNatClampNeg))] [.int t305] := by
                                  intro t305 p306 hf
                                  have hf := jE2 ej1038_306 hf
                                  exact a_retWB (Wf := WCL cI cS cJ ad al) hR dL_acts_1038 hf
                                refine j_if_eq (tgt := 1037) (pc := 1017) X dL_acts_1017 rfl (fun c308 => ?_) (fun c308 => ?_)
                                · have hf := kT c308 hf
                                  refine j_iconst (pc := 1037) X dL_acts_1037 kcL_0 ?_
                                  exact hj1038_306 _ _ hf
                                · have hf := kF c308 hf
                                  refine j_aload_n (pc := 1020) X dL_acts_1020 rfl ?_
                                  refine j_iload (pc := 1021) X dL_acts_1021 rfl ?_
                                  refine j_iload (pc := 1023) X dL_acts_1023 rfl ?_
                                  obtain ⟨r310, h309, hf⟩ := kB hf
                                  refine a_cE (pc := 1025) X hA hI hZ (c_X8_set hI.1 N p304.1 (r2 - r2 / 5 * 5) t300 (LV := LV) (GV := GV) h309) gL_acts_X8_set rfl ⟨rfl, rfl⟩ rfl hd_X8_set ⟨(Nat.le_of_ble_eq_true rfl), (Nat.le_of_ble_eq_true rfl)⟩ rfl (Nat.le_of_ble_eq_true rfl) rfl dL_acts_1025 ?_
                                  obtain ⟨p311, ep311, hf⟩ := jn_s hf
                                  rw [← ep311]
                                  refine j_iload (pc := 1028) X dL_acts_1028 rfl ?_
                                  refine j_icmp_ne (tgt := 1037) (pc := 1030) X dL_acts_1030 rfl (fun c312 => ?_) (fun c312 => ?_)
                                  · have hf := kF c312 hf
                                    refine j_iconst (pc := 1037) X dL_acts_1037 kcL_0 ?_
                                    exact hj1038_306 _ _ hf
                                  · have hf := kT c312 hf
                                    refine j_iconst (pc := 1033) X dL_acts_1033 kcL_1 ?_
                                    refine j_goto (tgt := 1038) (pc := 1034) X dL_acts_1034 rfl ?_
                                    exact hj1038_306 _ _ hf
                              refine j_if_ne (tgt := 924) (pc := 912) X dL_acts_912 rfl (fun c313 => ?_) (fun c313 => ?_)
                              · have hf := kF c313 hf
                                refine j_iload (pc := 924) X dL_acts_924 rfl ?_
                                refine j_iconst (pc := 926) X dL_acts_926 kcL_1 ?_
                                refine j_icmp_ne (tgt := 942) (pc := 927) X dL_acts_927 rfl (fun c314 => ?_) (fun c314 => ?_)
                                · have hf := kF c314 hf
                                  refine j_iload (pc := 942) X dL_acts_942 rfl ?_
                                  refine j_iconst (pc := 944) X dL_acts_944 kcL_2 ?_
                                  refine j_icmp_ne (tgt := 960) (pc := 945) X dL_acts_945 rfl (fun c315 => ?_) (fun c315 => ?_)
                                  · have hf := kF c315 hf
                                    refine j_iload (pc := 960) X dL_acts_960 rfl ?_
                                    refine j_iconst (pc := 962) X dL_acts_962 kcL_3 ?_
                                    refine j_icmp_ne (tgt := 978) (pc := 963) X dL_acts_963 rfl (fun c316 => ?_) (fun c316 => ?_)
                                    · have hf := kF c316 hf
                                      refine j_bipush (pc := 978) X dL_acts_978 kbL_20 ?_
                                      refine j_iload (pc := 980) X dL_acts_980 rfl ?_
                                      refine j_iconst (pc := 982) X dL_acts_982 kcL_5 ?_
                                      obtain ⟨z317, hf⟩ := gNz_s hf
                                      refine j_idiv (pc := 983) X dL_acts_983 z317 ?_
                                      refine j_iload (pc := 984) X dL_acts_984 rfl ?_
                                      refine j_iconst (pc := 986) X dL_acts_986 kcL_2 ?_
                                      obtain ⟨z318, hf⟩ := gNz_s hf
                                      refine j_irem (pc := 987) X dL_acts_987 z318 ?_
                                      obtain ⟨j999_319, ej999_319, hf⟩ := jn_s hf
                                      have hj999_319 : ∀ (t319 : Int32), j999_319 t319 = some (r, pr) → JA g (WCL cI cS cJ ad al p5) 19 999 [some (.ref (ad 0)), some (.ref (al 0)), some (.ref (al 1)), some (.ref (al 2)), some (.int a4), some (.int r2), some (.int t6), none, none, none, none, none, none, none, none, none, some (.int (r2 - r2 / 5 * 5)), none, none] [.int t319, .int (r2 / 5), .int 20] := by
                                        intro t319 hf
                                        have hf := jE1 ej999_319 hf
                                        obtain ⟨z321, hf⟩ := gNz_s hf
                                        refine j_irem (pc := 999) X dL_acts_999 z321 ?_
                                        refine j_iadd (pc := 1000) X dL_acts_1000 ?_
                                        exact hj1001_300 _ hf
                                      refine j_if_ne (tgt := 997) (pc := 988) X dL_acts_988 rfl (fun c322 => ?_) (fun c322 => ?_)
                                      · have hf := kF c322 hf
                                        refine j_bipush (pc := 997) X dL_acts_997 kbL_40 ?_
                                        exact hj999_319 _ hf
                                      · have hf := kT c322 hf
                                        refine j_sipush (pc := 991) X dL_acts_991 ksL_181 ?_
                                        refine j_goto (tgt := 999) (pc := 994) X dL_acts_994 rfl ?_
                                        exact hj999_319 _ hf
                                    · have hf := kT c316 hf
                                      refine j_iconst (pc := 966) X dL_acts_966 kcL_1 ?_
                                      refine j_iload (pc := 967) X dL_acts_967 rfl ?_
                                      refine j_iconst (pc := 969) X dL_acts_969 kcL_5 ?_
                                      obtain ⟨z323, hf⟩ := gNz_s hf
                                      refine j_idiv (pc := 970) X dL_acts_970 z323 ?_
                                      refine j_bipush (pc := 971) X dL_acts_971 kbL_9 ?_
                                      obtain ⟨z324, hf⟩ := gNz_s hf
                                      refine j_irem (pc := 973) X dL_acts_973 z324 ?_
                                      refine j_iadd (pc := 974) X dL_acts_974 ?_
                                      refine j_goto (tgt := 1001) (pc := 975) X dL_acts_975 rfl ?_
                                      exact hj1001_300 _ hf
                                  · have hf := kT c315 hf
                                    refine j_iconst (pc := 948) X dL_acts_948 kcL_1 ?_
                                    refine j_iload (pc := 949) X dL_acts_949 rfl ?_
                                    refine j_iconst (pc := 951) X dL_acts_951 kcL_5 ?_
                                    obtain ⟨z325, hf⟩ := gNz_s hf
                                    refine j_idiv (pc := 952) X dL_acts_952 z325 ?_
                                    refine j_bipush (pc := 953) X dL_acts_953 kbL_8 ?_
                                    obtain ⟨z326, hf⟩ := gNz_s hf
                                    refine j_irem (pc := 955) X dL_acts_955 z326 ?_
                                    refine j_iadd (pc := 956) X dL_acts_956 ?_
                                    refine j_goto (tgt := 1001) (pc := 957) X dL_acts_957 rfl ?_
                                    exact hj1001_300 _ hf
                                · have hf := kT c314 hf
                                  refine j_iconst (pc := 930) X dL_acts_930 kcL_1 ?_
                                  refine j_iload (pc := 931) X dL_acts_931 rfl ?_
                                  refine j_iconst (pc := 933) X dL_acts_933 kcL_5 ?_
                                  obtain ⟨z327, hf⟩ := gNz_s hf
                                  refine j_idiv (pc := 934) X dL_acts_934 z327 ?_
                                  refine j_bipush (pc := 935) X dL_acts_935 kbL_50 ?_
                                  obtain ⟨z328, hf⟩ := gNz_s hf
                                  refine j_irem (pc := 937) X dL_acts_937 z328 ?_
                                  refine j_iadd (pc := 938) X dL_acts_938 ?_
                                  refine j_goto (tgt := 1001) (pc := 939) X dL_acts_939 rfl ?_
                                  exact hj1001_300 _ hf
                              · have hf := kT c313 hf
                                refine j_iload (pc := 915) X dL_acts_915 rfl ?_
                                refine j_iconst (pc := 917) X dL_acts_917 kcL_5 ?_
                                obtain ⟨z329, hf⟩ := gNz_s hf
                                refine j_idiv (pc := 918) X dL_acts_918 z329 ?_
                                refine j_iconst (pc := 919) X dL_acts_919 kcL_4 ?_
                                obtain ⟨z330, hf⟩ := gNz_s hf
                                refine j_irem (pc := 920) X dL_acts_920 z330 ?_
                                refine j_goto (tgt := 1001) (pc := 921) X dL_acts_921 rfl ?_
                                exact hj1001_300 _ hf
  refine j_if_lt (tgt := 22) (pc := 15) X dL_acts_15 rfl (fun c331 => ?_) (fun c331 => ?_)
  · have hf := kT c331 hf
    refine j_iconst (pc := 22) X dL_acts_22 kcL_0 ?_
    exact hj23_6 _ hf
  · have hf := kF c331 hf
    refine j_iconst (pc := 18) X dL_acts_18 kcL_1 ?_
    refine j_goto (tgt := 23) (pc := 19) X dL_acts_19 rfl ?_
    exact hj23_6 _ hf
theorem c_L_acts {l : Launch} {D : va_G} {cI cS cJ : ClassId} {ad al : Nat → Nat} (hI : lwD ad al) (N : Nat) (p : kS × kS) (a4 : Int32) {r : Int32} {pr : kS × kS} {LV GV : Nat} (hf : f_L_acts N p a4 = some (r, pr)) : mWL l yL_acts wsL_acts rm_L_acts D cI cS (WCL cI cS cJ ad al p) (WCL cI cS cJ ad al pr) (lwA ad al) (fun U => kE D cJ U ∧ kZ (lwA ad al) LV GV U) [.ref (ad 0), .ref (al 0), .ref (al 1), .ref (al 2), .int a4] r :=
  mWL.of (by decide) rfl (Nat.le_of_ble_eq_true rfl) (fun g X hE e hA hR => by subst e; exact t_L_acts X hE.1 hA hI hE.2 hR N p a4 hf)
abbrev rm_L_begins : Room := { frames := 0, cells := 0, slots := 0, locals := 0 }
theorem hd_L_begins : kHd yL_begins 2 := by decide +kernel
set_option maxHeartbeats 4000000 in
set_option maxRecDepth 100000 in
theorem lt_L_begins_20 {g : kG} {cI cS cJ : ClassId} {al : Nat → Nat} (X : Kx g cI cS cL_begins RL wsL_begins 3 rm_L_begins) (hA : g.2.2.1 = va_S (kAd 3 al) g.1.2.2.2.2.heap) (hI : kInj 3 al) (hD : ∀ z : kS, va_D (fun _ => True) (WL3 cI cJ al z)) {Cr : kS} (hR : eV g 3 cL_begins (WL3 cI cJ al Cr)) (N : Nat)  (k96_9 : kS → Option (kS)) (hk96_9 : ∀ (C9 : kS), k96_9 C9 = some Cr → JA g (WL3 cI cJ al C9) 3 96 [some (.ref (al 0)), some (.ref (al 1)), none] []) : ∀ (n : Nat) (x11 : Int32) (C12 : kS), lp_L_begins_20 N k96_9 n x11 C12 = some Cr → JA g (WL3 cI cJ al C12) 3 20 [some (.ref (al 0)), some (.ref (al 1)), some (.int x11)] [] := by
  intro n
  induction n with
  | zero =>
    intro x11 C12 hf
    rw [lp_L_begins_20] at hf
    cases hf
  | succ n ih =>
    intro x11 C12 hf
    rw [lp_L_begins_20] at hf
    refine j_iload_n (pc := 20) X dL_begins_20 rfl ?_
    refine j_bipush (pc := 21) X dL_begins_21 kbL_26 ?_
    refine j_icmp_ge (tgt := 96) (pc := 23) X dL_begins_23 rfl (fun c13 => ?_) (fun c13 => ?_)
    · have hf := kT c13 hf
      refine j_weak (lv' := [some (.ref (al 0)), some (.ref (al 1)), none]) (And.intro rfl (And.intro rfl trivial)) ?_
      exact hk96_9 _ hf
    · have hf := kF c13 hf
      refine j_aload_n (pc := 26) X dL_begins_26 rfl ?_
      refine j_iload_n (pc := 27) X dL_begins_27 rfl ?_
      refine j_iload_n (pc := 28) X dL_begins_28 rfl ?_
      refine j_bipush (pc := 29) X dL_begins_29 kbL_8 ?_
      obtain ⟨j89_14, ej89_14, hf⟩ := jn_s hf
      have hj89_14 : ∀ (t14 : Int32), j89_14 t14 = some Cr → JA g (WL3 cI cJ al C12) 3 89 [some (.ref (al 0)), some (.ref (al 1)), some (.int x11)] [.int t14, .int x11, .ref (al 1)] := by
        intro t14 hf
        have hf := jE1 ej89_14 hf
        obtain ⟨b16, hf⟩ := gIn_s hf
        obtain ⟨C17, eC17, hf⟩ := jn_s hf
        refine a_iast (W1 := (WL3 cI cJ al C17)) (pc := 89) X hA (hD _) (al_B (by decide)) w3_1 b16 dL_begins_89 (by rw [eC17]; exact s3_1 _) ?_
        refine j_iinc (pc := 90) X dL_begins_90 rfl (v := x11 + 1) (by rw [kcL_1]) (Nat.le_of_ble_eq_true rfl) (lv' := [some (.ref (al 0)), some (.ref (al 1)), some (.int (x11 + 1))]) rfl ?_
        refine j_goto (tgt := 20) (pc := 93) X dL_begins_93 rfl ?_
        exact ih _ _ hf
      obtain ⟨j46_17, ej46_17, hf⟩ := jn_s hf
      have hj46_17 : ∀ (_ : Unit), j46_17 = some Cr → JA g (WL3 cI cJ al C12) 3 46 [some (.ref (al 0)), some (.ref (al 1)), some (.int x11)] [.int x11, .ref (al 1)] := by
        intro _ hf
        have hf := jE0 ej46_17 hf
        refine j_iconst (pc := 46) X dL_begins_46 kcL_2 ?_
        refine j_goto (tgt := 89) (pc := 47) X dL_begins_47 rfl ?_
        exact hj89_14 _ hf
      refine j_icmp_eq (tgt := 46) (pc := 31) X dL_begins_31 rfl (fun c19 => ?_) (fun c19 => ?_)
      · have hf := kT c19 hf
        exact hj46_17 () hf
      · have hf := kF c19 hf
        refine j_iload_n (pc := 34) X dL_begins_34 rfl ?_
        refine j_bipush (pc := 35) X dL_begins_35 kbL_9 ?_
        refine j_icmp_eq (tgt := 46) (pc := 37) X dL_begins_37 rfl (fun c20 => ?_) (fun c20 => ?_)
        · have hf := kT c20 hf
          exact hj46_17 () hf
        · have hf := kF c20 hf
          refine j_iload_n (pc := 40) X dL_begins_40 rfl ?_
          refine j_bipush (pc := 41) X dL_begins_41 kbL_11 ?_
          refine j_icmp_ne (tgt := 50) (pc := 43) X dL_begins_43 rfl (fun c21 => ?_) (fun c21 => ?_)
          · have hf := kF c21 hf
            refine j_iload_n (pc := 50) X dL_begins_50 rfl ?_
            refine j_iconst (pc := 51) X dL_begins_51 kcL_5 ?_
            obtain ⟨j67_21, ej67_21, hf⟩ := jn_s hf
            have hj67_21 : ∀ (_ : Unit), j67_21 = some Cr → JA g (WL3 cI cJ al C12) 3 67 [some (.ref (al 0)), some (.ref (al 1)), some (.int x11)] [.int x11, .ref (al 1)] := by
              intro _ hf
              have hf := jE0 ej67_21 hf
              refine j_iconst (pc := 67) X dL_begins_67 kcL_3 ?_
              refine j_goto (tgt := 89) (pc := 68) X dL_begins_68 rfl ?_
              exact hj89_14 _ hf
            refine j_icmp_eq (tgt := 67) (pc := 52) X dL_begins_52 rfl (fun c23 => ?_) (fun c23 => ?_)
            · have hf := kT c23 hf
              exact hj67_21 () hf
            · have hf := kF c23 hf
              refine j_iload_n (pc := 55) X dL_begins_55 rfl ?_
              refine j_bipush (pc := 56) X dL_begins_56 kbL_17 ?_
              refine j_icmp_eq (tgt := 67) (pc := 58) X dL_begins_58 rfl (fun c24 => ?_) (fun c24 => ?_)
              · have hf := kT c24 hf
                exact hj67_21 () hf
              · have hf := kF c24 hf
                refine j_iload_n (pc := 61) X dL_begins_61 rfl ?_
                refine j_bipush (pc := 62) X dL_begins_62 kbL_19 ?_
                refine j_icmp_ne (tgt := 71) (pc := 64) X dL_begins_64 rfl (fun c25 => ?_) (fun c25 => ?_)
                · have hf := kF c25 hf
                  refine j_iload_n (pc := 71) X dL_begins_71 rfl ?_
                  refine j_bipush (pc := 72) X dL_begins_72 kbL_12 ?_
                  obtain ⟨j83_25, ej83_25, hf⟩ := jn_s hf
                  have hj83_25 : ∀ (_ : Unit), j83_25 = some Cr → JA g (WL3 cI cJ al C12) 3 83 [some (.ref (al 0)), some (.ref (al 1)), some (.int x11)] [.int x11, .ref (al 1)] := by
                    intro _ hf
                    have hf := jE0 ej83_25 hf
                    refine j_bipush (pc := 83) X dL_begins_83 kbL_6 ?_
                    refine j_goto (tgt := 89) (pc := 85) X dL_begins_85 rfl ?_
                    exact hj89_14 _ hf
                  refine j_icmp_eq (tgt := 83) (pc := 74) X dL_begins_74 rfl (fun c27 => ?_) (fun c27 => ?_)
                  · have hf := kT c27 hf
                    exact hj83_25 () hf
                  · have hf := kF c27 hf
                    refine j_iload_n (pc := 77) X dL_begins_77 rfl ?_
                    refine j_bipush (pc := 78) X dL_begins_78 kbL_22 ?_
                    refine j_icmp_ne (tgt := 88) (pc := 80) X dL_begins_80 rfl (fun c28 => ?_) (fun c28 => ?_)
                    · have hf := kF c28 hf
                      refine j_iconst (pc := 88) X dL_begins_88 kcL_4 ?_
                      exact hj89_14 _ hf
                    · have hf := kT c28 hf
                      exact hj83_25 () hf
                · have hf := kT c25 hf
                  exact hj67_21 () hf
          · have hf := kT c21 hf
            exact hj46_17 () hf
set_option maxHeartbeats 4000000 in
set_option maxRecDepth 100000 in
theorem t_L_begins {g : kG} {cI cS cJ : ClassId} {al : Nat → Nat} (X : Kx g cI cS cL_begins RL wsL_begins 3 rm_L_begins) (hA : g.2.2.1 = va_S (kAd 3 al) g.1.2.2.2.2.heap) (hI : kInj 3 al) {Cr : kS} (hR : eV g 3 cL_begins (WL3 cI cJ al Cr)) (N : Nat) (C : kS) (hf : f_L_begins N C = some Cr) : JA g (WL3 cI cJ al C) 3 0 [some (.ref (al 0)), some (.ref (al 1)), none] [] := by
  unfold f_L_begins at hf
  have hD : ∀ z : kS, va_D (fun _ => True) (WL3 cI cJ al z) := fun z => WL3_D hI
  refine j_aload_n (pc := 0) X dL_begins_0 rfl ?_
  refine j_iconst (pc := 1) X dL_begins_1 kcL_1 ?_
  refine j_bipush (pc := 2) X dL_begins_2 kbL_10 ?_
  obtain ⟨b1, hf⟩ := gIn_s hf
  obtain ⟨C2, eC2, hf⟩ := jn_s hf
  refine a_iast (W1 := (WL3 cI cJ al C2)) (pc := 4) X hA (hD _) (al_B (by decide)) w3_0 b1 dL_begins_4 (by rw [eC2]; exact s3_0 _) ?_
  refine j_aload_n (pc := 5) X dL_begins_5 rfl ?_
  refine j_iconst (pc := 6) X dL_begins_6 kcL_2 ?_
  refine j_iconst (pc := 7) X dL_begins_7 kcL_3 ?_
  obtain ⟨b3, hf⟩ := gIn_s hf
  obtain ⟨C4, eC4, hf⟩ := jn_s hf
  refine a_iast (W1 := (WL3 cI cJ al C4)) (pc := 8) X hA (hD _) (al_B (by decide)) w3_0 b3 dL_begins_8 (by rw [eC4]; exact s3_0 _) ?_
  refine j_aload_n (pc := 9) X dL_begins_9 rfl ?_
  refine j_iconst (pc := 10) X dL_begins_10 kcL_3 ?_
  refine j_iconst (pc := 11) X dL_begins_11 kcL_3 ?_
  obtain ⟨b5, hf⟩ := gIn_s hf
  obtain ⟨C6, eC6, hf⟩ := jn_s hf
  refine a_iast (W1 := (WL3 cI cJ al C6)) (pc := 12) X hA (hD _) (al_B (by decide)) w3_0 b5 dL_begins_12 (by rw [eC6]; exact s3_0 _) ?_
  refine j_aload_n (pc := 13) X dL_begins_13 rfl ?_
  refine j_iconst (pc := 14) X dL_begins_14 kcL_4 ?_
  refine j_bipush (pc := 15) X dL_begins_15 kbL_80 ?_
  obtain ⟨b7, hf⟩ := gIn_s hf
  obtain ⟨C8, eC8, hf⟩ := jn_s hf
  refine a_iast (W1 := (WL3 cI cJ al C8)) (pc := 17) X hA (hD _) (al_B (by decide)) w3_0 b7 dL_begins_17 (by rw [eC8]; exact s3_0 _) ?_
  refine j_iconst (pc := 18) X dL_begins_18 kcL_0 ?_
  refine j_istore_n (pc := 19) X dL_begins_19 (Nat.le_of_ble_eq_true rfl) (lv' := [some (.ref (al 0)), some (.ref (al 1)), some (.int 0)]) rfl ?_
  obtain ⟨k96_9, ek96_9, hf⟩ := jn_s hf
  have hk96_9 : ∀ (C9 : kS), k96_9 C9 = some Cr → JA g (WL3 cI cJ al C9) 3 96 [some (.ref (al 0)), some (.ref (al 1)), none] [] := by
    intro C9 hf
    have hf := jE1 ek96_9 hf
    exact a_retV (Wf := WL3 cI cJ al) hR dL_begins_96 hf
  exact lt_L_begins_20 X hA hI hD hR N  k96_9 hk96_9 N _ _ hf
theorem c_L_begins {l : Launch} {D : va_G} {cI cS cJ : ClassId} {al : Nat → Nat} (hI : kInj 3 al) (N : Nat) (C : kS) {Cr : kS} (hf : f_L_begins N C = some Cr) : mVL l yL_begins wsL_begins rm_L_begins D cI cS (WL3 cI cJ al C) (WL3 cI cJ al Cr) (kAd 3 al) (kE D cJ) [.ref (al 0), .ref (al 1)] :=
  mVL.of (by decide) rfl (Nat.le_of_ble_eq_true rfl) (fun g X _ e hA hR => by subst e; exact t_L_begins X hA hI hR N C hf)
