/-! ===== the law's loops ===== -/
theorem pr_y1 : Cond.arrayClass .int ∈ wsL_law := List.mem_of_getElem? (i := 3) rfl
theorem pr_y2 : Cond.arrayClass .long ∈ wsL_law := List.mem_of_getElem? (i := 4) rfl
def Ly (g : kG) (cI cS cJ : ClassId) (A : Nat → Prop) (ad al : Nat → Nat) (LV GV b L : Nat) (xs : Nat → Int32) : Prop :=
  (∀ cs sl : Nat, cs ≤ 1200000 → sl ≤ 5502250 → Kx (gC g cs sl) cI cS cL_law RL wsL_law 8 room_1) ∧ g.2.2.1 = va_S A g.1.2.2.2.2.heap ∧ lwD ad al ∧ (∀ q, lwA ad al q → A q) ∧ kE g.2.2.2.1 cJ g.1.2.2.2.2 ∧ kZ A LV GV g.1.2.2.2.2 ∧ va_X b L xs g.1.2.2.2.2 g.1.2.2.2.2.heap ∧ b < g.1.2.2.2.2.heap.size ∧ (¬ A b) ∧ ∀ (W0 : va_W) (lv : List (Option Value)), JA (gC g 1200000 5502250) W0 8 224 lv [.int 1]
abbrev LJ (g : kG) (cI cS cJ : ClassId) (ad al : Nat → Nat) (p : kS × kS) (cs sl pc : Nat) (lv : List (Option Value)) (st : List Value) : Prop := JA (gC g cs sl) (WCL cI cS cJ ad al p) 8 pc lv st
section LL
variable {g : kG} {cI cS cJ : ClassId} {A : Nat → Prop} {ad al : Nat → Nat} {LV GV b L T k cs sl : Nat} {xs : Nat → Int32} {p : kS × kS} {lv : List (Option Value)} {st : List Value}
theorem RW.rc {C L : kS} (h : RW C L) : ∃ a, RC C a ∧ LB a ∧ LR L a := by
  obtain ⟨M, a, t, c, hR, hb, hL⟩ := h
  exact ⟨a, hR.rc, hb, hL⟩
theorem y_isSo (Y : Ly g cI cS cJ A ad al LV GV b L xs) (hR : RW p.1 p.2) (hc : cs + 128 ≤ 1200000) (hs : sl + 1526 ≤ 5502250) {pc : Nat} (hdg : decode cL_law pc = .ok (.invokestatic 106, 3)) (kk : LJ g cI cS cJ ad al p (cs + 128) (sl + 1526) (pc + 3) lv [.int 1]) : LJ g cI cS cJ ad al p cs sl pc lv [.ref (al 2), .ref (al 1), .ref (al 0), .ref (ad 0)] := by
  obtain ⟨hX, hA, hI, hAA, hE, hZ, hXs, hb, hbA, -⟩ := Y
  obtain ⟨a, h1, h2, h3⟩ := hR.rc
  exact a_callAL (pc := pc) (hX cs sl (by omega) (by omega)) hE hA (c_L_isSo hI 3000 p (f_isSo (C := p.1) (L := p.2) h1 h2 h3 (Nat.le_refl _))) (fun _ h => h) gL_law_L_isSo rfl rfl rfl hd_L_isSo ⟨(Nat.le_of_ble_eq_true rfl), (Nat.le_of_ble_eq_true rfl)⟩ rfl hc hs (Nat.le_of_ble_eq_true rfl) rfl hdg kk
theorem y_acts (Y : Ly g cI cS cJ A ad al LV GV b L xs) (hR : RW p.1 p.2) (hc : cs ≤ 1200000) (hs : sl ≤ 5502250) (z : Int32) {pc : Nat} (hdg : decode cL_law pc = .ok (.invokestatic 114, 3)) (kk : ∀ q : kS × kS, RW q.1 q.2 → LJ g cI cS cJ ad al q cs sl (pc + 3) lv [.int 1]) : LJ g cI cS cJ ad al p cs sl pc lv [.int z, .ref (al 2), .ref (al 1), .ref (al 0), .ref (ad 0)] := by
  obtain ⟨hX, hA, hI, hAA, hE, hZ, hXs, hb, hbA, -⟩ := Y
  obtain ⟨q, e, h⟩ := f_acts (N := 3000) hR z (Nat.le_refl _)
  exact z_callWL (g := gC g cs sl) (pc := pc) (hX cs sl hc hs) hE hZ hA hAA (c_L_acts hI 3000 p z e) gL_law_L_acts rfl ⟨rfl, rfl⟩ hd_L_acts ⟨(Nat.le_of_ble_eq_true rfl), (Nat.le_of_ble_eq_true rfl)⟩ rfl (Nat.le_of_ble_eq_true rfl) rfl hdg (kk q h)
theorem y_cell (Y : Ly g cI cS cJ A ad al LV GV b L xs) (hL : L ≤ 260) (hc : cs ≤ 1200000) (hs : sl ≤ 5502250) {n : Nat} (hn : n < 100000) {pc : Nat} (hsum : (st.map fun v => v.category).sum ≤ 8) (hdg : decode cL_law pc = .ok (.invokestatic 110, 3)) (kk : ∀ v : Int32, LJ g cI cS cJ ad al p cs sl (pc + 3) lv (.int v :: st)) : LJ g cI cS cJ ad al p cs sl pc lv (.int (nI n) :: .ref b :: st) := by
  obtain ⟨hX, hA, hI, hAA, hE, hZ, hXs, hb, hbA, -⟩ := Y
  exact z_cell (pc := pc) (hX cs sl hc hs) hA hXs hb hbA (c_L_cell hL hn) gL_law_L_cell rfl ⟨rfl, rfl⟩ hd_L_cell ⟨(Nat.le_of_ble_eq_true rfl), (Nat.le_of_ble_eq_true rfl)⟩ rfl hsum rfl hdg (kk _)
/-- the end -/
theorem y_end (Y : Ly g cI cS cJ A ad al LV GV b L xs) (hR : RW p.1 p.2) (hc : cs ≤ 1200000) (hs : sl ≤ 5502250) (v6 v7 : Option Value) : LJ g cI cS cJ ad al p cs sl 192 [some (.ref b), some (.ref (ad 0)), some (.ref (al 0)), some (.ref (al 1)), some (.ref (al 2)), some (.int 1), v6, v7] [] := by
  have X := Y.1 cs sl hc hs
  obtain ⟨a, h1, -, -⟩ := hR.rc
  refine j_iload (pc := 192) (i := 5) X dL_law_192 rfl ?_
  refine j_if_eq (pc := 194) (tgt := 223) X dL_law_194 (by decide) (fun h => absurd h (by decide)) (fun _ => ?_)
  refine j_aload_n (pc := 197) (i := 1) X dL_law_197 rfl ?_
  refine j_bipush (pc := 198) (v := 17) X dL_law_198 kbL_17 ?_
  refine a_cI (pc := 200) X (fun _ h => P_l h) (c_X8_count 3000 p.1 17 V_c17) gL_law_X8_count rfl ⟨rfl, rfl⟩ rfl hd_X8_count ⟨(Nat.le_of_ble_eq_true rfl), (Nat.le_of_ble_eq_true rfl)⟩ rfl (Nat.le_of_ble_eq_true rfl) rfl dL_law_200 ?_
  refine j_bipush (pc := 203) (v := -11) X dL_law_203 kbL_m11 ?_
  refine j_icmp_ne (pc := 205) (tgt := 223) X dL_law_205 (by decide) (fun h => absurd rfl h) (fun _ => ?_)
  refine j_aload_n (pc := 208) (i := 1) X dL_law_208 rfl ?_
  refine j_iconst (pc := 209) (v := -1) X dL_law_209 kcL_m1 ?_
  refine j_iconst (pc := 210) (v := 0) X dL_law_210 kcL_0 ?_
  refine a_cI (pc := 211) X (fun _ h => P_l h) (c_X8_word 3000 p.1 (-1) 0 (V_wordM h1 0)) gL_law_X8_word rfl ⟨rfl, rfl⟩ rfl hd_X8_word ⟨(Nat.le_of_ble_eq_true rfl), (Nat.le_of_ble_eq_true rfl)⟩ rfl (Nat.le_of_ble_eq_true rfl) rfl dL_law_211 ?_
  refine j_bipush (pc := 214) (v := -11) X dL_law_214 kbL_m11 ?_
  refine j_icmp_ne (pc := 216) (tgt := 223) X dL_law_216 (by decide) (fun h => absurd rfl h) (fun _ => ?_)
  refine j_iconst (pc := 219) (v := 1) X dL_law_219 kcL_1 ?_
  refine j_goto (pc := 220) (tgt := 224) X dL_law_220 (by decide) ?_
  exact a_widen hc hs (Y.2.2.2.2.2.2.2.2.2 _ _)
/-- the turns -/
theorem y_turns (Y : Ly g cI cS cJ A ad al LV GV b L xs) (hL : L ≤ 260) (hT : T ≤ 50) : ∀ (n k cs sl : Nat), k + n = T → cs + 128 * n ≤ 1200000 → sl + 1526 * n ≤ 5502250 → ∀ p : kS × kS, RW p.1 p.2 → LJ g cI cS cJ ad al p cs sl 129 [some (.ref b), some (.ref (ad 0)), some (.ref (al 0)), some (.ref (al 1)), some (.ref (al 2)), some (.int 1), some (.int (nI T)), some (.int (nI k))] [] := by
  intro n
  induction n with
  | zero =>
    intro k cs sl hk hc hs p hR
    have X := Y.1 cs sl (by omega) (by omega)
    refine j_iload (pc := 129) (i := 7) X dL_law_129 rfl ?_
    refine j_iload (pc := 131) (i := 6) X dL_law_131 rfl ?_
    refine j_icmp_ge (pc := 133) (tgt := 192) X dL_law_133 (by decide) (fun _ => y_end Y hR (by omega) (by omega) _ _) (fun h => absurd ((nI_leI (by omega) (by omega)).mpr (by omega)) h)
  | succ n ih =>
    intro k cs sl hk hc hs p hR
    rw [Nat.mul_succ] at hc hs
    have hc2 : cs + 128 ≤ 1200000 := Nat.le_trans (Nat.add_le_add_left (Nat.le_add_left _ _) _) hc
    have hs2 : sl + 1526 ≤ 5502250 := Nat.le_trans (Nat.add_le_add_left (Nat.le_add_left _ _) _) hs
    have hc3 : cs ≤ 1200000 := Nat.le_trans (Nat.le_add_right _ _) hc
    have hs3 : sl ≤ 5502250 := Nat.le_trans (Nat.le_add_right _ _) hs
    have X := Y.1 cs sl hc3 hs3
    refine j_iload (pc := 129) (i := 7) X dL_law_129 rfl ?_
    refine j_iload (pc := 131) (i := 6) X dL_law_131 rfl ?_
    refine j_icmp_ge (pc := 133) (tgt := 192) X dL_law_133 (by decide) (fun _ => y_end Y hR hc3 hs3 _ _) (fun _ => ?_)
    refine j_iload (pc := 136) (i := 5) X dL_law_136 rfl ?_
    refine j_if_eq (pc := 138) (tgt := 192) X dL_law_138 (by decide) (fun h => absurd h (by decide)) (fun _ => ?_)
    refine j_aload_n (pc := 141) (i := 1) X dL_law_141 rfl ?_
    refine j_aload_n (pc := 142) (i := 2) X dL_law_142 rfl ?_
    refine j_aload_n (pc := 143) (i := 3) X dL_law_143 rfl ?_
    refine j_aload (pc := 144) (i := 4) X dL_law_144 rfl ?_
    refine j_aload_n (pc := 146) (i := 0) X dL_law_146 rfl ?_
    refine j_bipush (pc := 147) (v := nI 6) X dL_law_147 (by decide) ?_
    refine j_iload (pc := 149) (i := 7) X dL_law_149 rfl ?_
    refine j_iadd (pc := 151) X dL_law_151 ?_
    rw [nI_add]
    refine y_cell (pc := 152) Y hL hc3 hs3 (by omega) (Nat.le_of_ble_eq_true rfl) dL_law_152 (fun v => ?_)
    refine j_sipush (pc := 155) (v := 7919) X dL_law_155 (by decide) ?_
    refine j_iload (pc := 158) (i := 7) X dL_law_158 rfl ?_
    refine j_imul (pc := 160) X dL_law_160 ?_
    refine j_ixor (pc := 161) X dL_law_161 ?_
    refine y_acts (pc := 162) Y hR hc3 hs3 _ dL_law_162 (fun q hq => ?_)
    refine j_if_eq (pc := 165) (tgt := 183) X dL_law_165 (by decide) (fun h => absurd h (by decide)) (fun _ => ?_)
    refine j_aload_n (pc := 168) (i := 1) X dL_law_168 rfl ?_
    refine j_aload_n (pc := 169) (i := 2) X dL_law_169 rfl ?_
    refine j_aload_n (pc := 170) (i := 3) X dL_law_170 rfl ?_
    refine j_aload (pc := 171) (i := 4) X dL_law_171 rfl ?_
    refine y_isSo (pc := 173) Y hq hc2 hs2 dL_law_173 ?_
    have X := Y.1 (cs + 128) (sl + 1526) hc2 hs2
    refine j_if_eq (pc := 176) (tgt := 183) X dL_law_176 (by decide) (fun h => absurd h (by decide)) (fun _ => ?_)
    refine j_iconst (pc := 179) (v := 1) X dL_law_179 kcL_1 ?_
    refine j_goto (pc := 180) (tgt := 184) X dL_law_180 (by decide) ?_
    refine j_istore (pc := 184) (i := 5) X dL_law_184 (by decide) rfl ?_
    refine j_iinc (pc := 186) (i := 7) (v := nI (k + 1)) X dL_law_186 rfl (by rw [show Int32.ofInt 1 = nI 1 by decide, nI_add]) (by decide) rfl ?_
    refine j_goto (pc := 189) (tgt := 129) X dL_law_189 (by decide) ?_
    exact ih (k + 1) (cs + 128) (sl + 1526) (by omega) (by omega) (by omega) q hq
/-- the first five acts -/
theorem y_five (Y : Ly g cI cS cJ A ad al LV GV b L xs) (hL : L ≤ 260) (hc : cs ≤ 1200000) (hs : sl ≤ 5502250) (kk : ∀ p : kS × kS, RW p.1 p.2 → LJ g cI cS cJ ad al p cs sl 111 [some (.ref b), some (.ref (ad 0)), some (.ref (al 0)), some (.ref (al 1)), some (.ref (al 2)), some (.int 1), some (.int (nI 5)), none] []) : ∀ (n k : Nat), k + n = 5 → ∀ p : kS × kS, RW p.1 p.2 → LJ g cI cS cJ ad al p cs sl 42 [some (.ref b), some (.ref (ad 0)), some (.ref (al 0)), some (.ref (al 1)), some (.ref (al 2)), some (.int 1), some (.int (nI k)), none] [] := by
  have X := Y.1 cs sl hc hs
  intro n
  induction n with
  | zero =>
    intro k hk p hR
    have hk5 : k = 5 := by omega
    subst hk5
    refine j_iload (pc := 42) (i := 6) X dL_law_42 rfl ?_
    refine j_iconst (pc := 44) (v := nI 5) X dL_law_44 (by decide) ?_
    refine j_icmp_ge (pc := 45) (tgt := 111) X dL_law_45 (by decide) (fun _ => kk p hR) (fun h => absurd (Int32.le_refl _) h)
  | succ n ih =>
    intro k hk p hR
    have hR' := hR
    refine j_iload (pc := 42) (i := 6) X dL_law_42 rfl ?_
    refine j_iconst (pc := 44) (v := nI 5) X dL_law_44 (by decide) ?_
    refine j_icmp_ge (pc := 45) (tgt := 111) X dL_law_45 (by decide) (fun h => absurd ((nI_leI (by decide) (by omega)).mp h) (by omega)) (fun _ => ?_)
    refine j_iload (pc := 48) (i := 5) X dL_law_48 rfl ?_
    refine j_if_eq (pc := 50) (tgt := 111) X dL_law_50 (by decide) (fun h => absurd h (by decide)) (fun _ => ?_)
    refine j_aload_n (pc := 53) (i := 1) X dL_law_53 rfl ?_
    refine j_aload_n (pc := 54) (i := 2) X dL_law_54 rfl ?_
    refine j_aload_n (pc := 55) (i := 3) X dL_law_55 rfl ?_
    refine j_aload (pc := 56) (i := 4) X dL_law_56 rfl ?_
    refine j_aload_n (pc := 58) (i := 0) X dL_law_58 rfl ?_
    refine j_iconst (pc := 59) (v := nI 1) X dL_law_59 (by decide) ?_
    refine j_iload (pc := 60) (i := 6) X dL_law_60 rfl ?_
    refine j_iadd (pc := 62) X dL_law_62 ?_
    rw [nI_add]
    refine y_cell (pc := 63) Y hL hc hs (by omega) (Nat.le_of_ble_eq_true rfl) dL_law_63 (fun v => ?_)
    refine j_ldc (pc := 66) (v := 2147483647) X (List.mem_of_getElem? (i := 5) rfl) dL_law_66 ?_
    refine j_iand (pc := 68) X dL_law_68 ?_
    refine j_sipush (pc := 69) (v := 576) X dL_law_69 (by decide) ?_
    refine j_idiv (pc := 72) X dL_law_72 (by decide) ?_
    refine j_sipush (pc := 73) (v := 576) X dL_law_73 (by decide) ?_
    refine j_imul (pc := 76) X dL_law_76 ?_
    have hend : ∀ m : Int32, LJ g cI cS cJ ad al p cs sl 99 [some (.ref b), some (.ref (ad 0)), some (.ref (al 0)), some (.ref (al 1)), some (.ref (al 2)), some (.int 1), some (.int (nI k)), none] [.int m, .int ((v &&& 2147483647) / 576 * 576), .ref (al 2), .ref (al 1), .ref (al 0), .ref (ad 0)] := fun m => by
      refine j_iadd (pc := 99) X dL_law_99 ?_
      refine y_acts (pc := 100) Y hR' hc hs _ dL_law_100 (fun q hq => ?_)
      refine j_istore (pc := 103) (i := 5) X dL_law_103 (by decide) rfl ?_
      refine j_iinc (pc := 105) (i := 6) (v := nI (k + 1)) X dL_law_105 rfl (by rw [show Int32.ofInt 1 = nI 1 by decide, nI_add]) (by decide) rfl ?_
      refine j_goto (pc := 108) (tgt := 42) X dL_law_108 (by decide) ?_
      exact ih (k + 1) (by omega) q hq
    refine j_iload (pc := 77) (i := 6) X dL_law_77 rfl ?_
    refine j_iconst (pc := 79) (v := nI 3) X dL_law_79 (by decide) ?_
    refine j_icmp_ge (pc := 80) (tgt := 87) X dL_law_80 (by decide) (fun _ => ?_) (fun _ => ?_)
    · refine j_iload (pc := 87) (i := 6) X dL_law_87 rfl ?_
      refine j_iconst (pc := 89) (v := nI 3) X dL_law_89 (by decide) ?_
      refine j_icmp_ne (pc := 90) (tgt := 98) X dL_law_90 (by decide) (fun _ => ?_) (fun _ => ?_)
      · exact j_iconst (pc := 98) (v := 0) X dL_law_98 kcL_0 (hend 0)
      · refine j_bipush (pc := 93) (v := 7) X dL_law_93 kbL_7 ?_
        exact j_goto (pc := 95) (tgt := 99) X dL_law_95 (by decide) (hend 7)
    · refine j_iconst (pc := 83) (v := 3) X dL_law_83 kcL_3 ?_
      exact j_goto (pc := 84) (tgt := 99) X dL_law_84 (by decide) (hend 3)
/-- from the first question on -/
theorem y_rest (Y : Ly g cI cS cJ A ad al LV GV b L xs) (hL : L ≤ 260) (hc : cs + 128 * 51 ≤ 1200000) (hs : sl + 1526 * 51 ≤ 5502250) (hR : RW p.1 p.2) : LJ g cI cS cJ ad al p cs sl 29 [some (.ref b), some (.ref (ad 0)), some (.ref (al 0)), some (.ref (al 1)), some (.ref (al 2)), none, none, none] [] := by
  have X := Y.1 cs sl (by omega) (by omega)
  refine j_aload_n (pc := 29) (i := 1) X dL_law_29 rfl ?_
  refine j_aload_n (pc := 30) (i := 2) X dL_law_30 rfl ?_
  refine j_aload_n (pc := 31) (i := 3) X dL_law_31 rfl ?_
  refine j_aload (pc := 32) (i := 4) X dL_law_32 rfl ?_
  refine y_isSo (pc := 34) Y hR (by omega) (by omega) dL_law_34 ?_
  have X := Y.1 (cs + 128) (sl + 1526) (by omega) (by omega)
  refine j_istore (pc := 37) (i := 5) X dL_law_37 (by decide) rfl ?_
  refine j_iconst (pc := 39) (v := nI 0) X dL_law_39 (by decide) ?_
  refine j_istore (pc := 40) (i := 6) X dL_law_40 (by decide) rfl ?_
  refine y_five Y hL (by omega) (by omega) (fun p hR => ?_) 5 0 rfl p hR
  refine j_bipush (pc := 111) (v := nI 6) X dL_law_111 (by decide) ?_
  refine j_aload_n (pc := 113) (i := 0) X dL_law_113 rfl ?_
  refine j_iconst (pc := 114) (v := nI 0) X dL_law_114 (by decide) ?_
  refine y_cell (pc := 115) Y hL (by omega) (by omega) (by decide) (Nat.le_of_ble_eq_true rfl) dL_law_115 (fun v => ?_)
  obtain ⟨r, hr, e⟩ := f_low (N := 3000) v (n := 45) (by decide) (by decide)
  refine j_bipush (pc := 118) (v := nI 45) X dL_law_118 (by decide) ?_
  refine j_callP (pc := 120) X (c_L_low 3000 v (nI 45) e) gL_law_L_low rfl ⟨rfl, rfl⟩ hd_L_low ⟨(Nat.le_of_ble_eq_true rfl), (Nat.le_of_ble_eq_true rfl)⟩ rfl (Nat.le_of_ble_eq_true rfl) rfl dL_law_120 ?_
  refine j_iadd (pc := 123) X dL_law_123 ?_
  rw [nI_add]
  refine j_istore (pc := 124) (i := 6) X dL_law_124 (by decide) rfl ?_
  refine j_iconst (pc := 126) (v := nI 0) X dL_law_126 (by decide) ?_
  refine j_istore (pc := 127) (i := 7) X dL_law_127 (by decide) rfl ?_
  exact y_turns Y hL (T := 6 + r) (by omega) (6 + r) 0 (cs + 128) (sl + 1526) (by omega) (by omega) (by omega) p hR
end LL
/-- the start: the object, the law's own cells -/
theorem law_go {g : kG} {cI cS cJ : ClassId} {A : Nat → Prop} {tw tv LV GV b L : Nat} {xs : Nat → Int32} (Y : Kz g cI cS cL_law RL wsL_law 8 room_1 A (eHi cI tw tv)) (hJ : kE g.2.2.2.1 cJ g.1.2.2.2.2) (hZ : kZ A LV GV g.1.2.2.2.2) (hX : va_X b L xs g.1.2.2.2.2 g.1.2.2.2.2.heap) (hb : b < g.1.2.2.2.2.heap.size) (hbA : ¬ A b) (hL : L ≤ 260) (hE : ∀ (ws : va_W) (lv : List (Option Value)), JA (gC g 1200000 5502250) ws 8 224 lv [.int 1]) : JW g 0 0 8 [] 0 [some (.ref b), none, none, none, none, none, none, none] [] := by
  have hD : va_D A [] := ⟨fun i j p q h => by simp at h, fun k q h => by simp at h⟩
  refine z_new (pc := 0) (cs := 0) (sl := 0) (ci := 8) (fs := [.null, .null, .null, .null, .null, .null, .null]) Y hD (fun w h => (gL_law_X8_init w (iwi_X8_init_X8 w h)).1) tyX8 tyX8_ok pr_x1 pr_x2 pr_x3 rfl (fun j hj => by rcases (show j = 0 ∨ j = 1 ∨ j = 2 ∨ j = 3 ∨ j = 4 ∨ j = 5 ∨ j = 6 by omega) with rfl | rfl | rfl | rfl | rfl | rfl | rfl <;> rfl) (Nat.le_of_ble_eq_true rfl) (Nat.le_of_ble_eq_true rfl) dL_law_0 (fun q hD => ?_)
  have X := Y.x (cs := 0 + 1) (sl := 0 + 7) (Nat.le_of_ble_eq_true rfl) (Nat.le_of_ble_eq_true rfl)
  refine j_dup (pc := 3) X dL_law_3 rfl ?_
  refine z_newc (ms := 4013) (pc := 4) (pre := []) (As := []) (maxL := 1) Y hD (c_X8_init g.1.2.1 g.2.2.2.1 cI cS q tw tv) (eHi_ok cI tw tv) (fun _ _ h => h) gL_law_X8_init rfl rfl rfl pr_x3 (List.mem_of_getElem? (i := 6) rfl) (List.mem_of_getElem? (i := 7) rfl) rfl (n := 0) (by decide +kernel) ⟨(Nat.le_of_ble_eq_true rfl), (Nat.le_of_ble_eq_true rfl)⟩ rfl (Nat.le_of_ble_eq_true rfl) (Nat.le_of_ble_eq_true rfl) (Nat.le_of_ble_eq_true rfl) rfl dL_law_4 (fun ad had hD => ?_)
  rw [List.nil_append] at hD ⊢
  rw [← had]
  obtain ⟨hI1, hI2⟩ := bb_I hD
  have X := Y.x (cs := 132) (sl := 4020) (Nat.le_of_ble_eq_true rfl) (Nat.le_of_ble_eq_true rfl)
  refine j_astore_n (pc := 7) (i := 1) X dL_law_7 (by decide) rfl ?_
  refine jw_to (ws2 := WC cI cS ad C0) (fun H hP => bb_P hP) ?_
  refine j_bipush (pc := 8) (v := 8) X dL_law_8 kbL_8 ?_
  refine a_newa (g := g) (cs := 132) (sl := 4020) (N := 8) (pc := 10) X Y.2.1 (WC_D3 hI1) pr_y1 (by decide) (by decide) (by decide) (Nat.le_of_ble_eq_true rfl) (Nat.le_of_ble_eq_true rfl) dL_law_10 (fun q0 hq0 hD0 => ?_)
  have X := Y.x (cs := 132 + 1) (sl := 4020 + 8) (Nat.le_of_ble_eq_true rfl) (Nat.le_of_ble_eq_true rfl)
  refine j_astore_n (pc := 12) (i := 2) X dL_law_12 (by decide) rfl ?_
  refine j_bipush (pc := 13) (v := 26) X dL_law_13 kbL_26 ?_
  refine a_newa (g := g) (cs := 132 + 1) (sl := 4020 + 8) (N := 26) (pc := 15) X Y.2.1 hD0 pr_y1 (by decide) (by decide) (by decide) (Nat.le_of_ble_eq_true rfl) (Nat.le_of_ble_eq_true rfl) dL_law_15 (fun q1 hq1 hD1 => ?_)
  have X := Y.x (cs := 132 + 1 + 1) (sl := 4020 + 8 + 26) (Nat.le_of_ble_eq_true rfl) (Nat.le_of_ble_eq_true rfl)
  refine j_astore_n (pc := 17) (i := 3) X dL_law_17 (by decide) rfl ?_
  refine j_bipush (pc := 18) (v := 14) X dL_law_18 kbL_14 ?_
  refine a_newj (g := g) (cs := 132 + 1 + 1) (sl := 4020 + 8 + 26) (N := 14) (pc := 20) X hJ Y.2.1 hD1 pr_y2 (by decide) (by decide) (by decide) (Nat.le_of_ble_eq_true rfl) (Nat.le_of_ble_eq_true rfl) dL_law_20 (fun q2 hq2 hD2 => ?_)
  have X := Y.x (cs := 132 + 1 + 1 + 1) (sl := 4020 + 8 + 26 + 14) (Nat.le_of_ble_eq_true rfl) (Nat.le_of_ble_eq_true rfl)
  obtain ⟨al, a0, a1, a2⟩ : ∃ al : Nat → Nat, al 0 = q0 ∧ al 1 = q1 ∧ al 2 = q2 := ⟨fun i => if i = 0 then q0 else if i = 1 then q1 else q2, rfl, rfl, rfl⟩
  have h64 : (fun _ : Nat => (0 : Int64)) = fun i => (L0 2 i).toInt64 := by
    funext i
    show (0 : Int64) = (0 : Int32).toInt64
    decide
  have eW : ((WC cI cS ad C0 ++ ([(q0, .inl (cI, 8, .inl (fun _ => 0)))] : va_W)) ++ ([(q1, .inl (cI, 26, .inl (fun _ => 0)))] : va_W)) ++ ([(q2, .inl (cJ, 14, .inr (.inl (fun _ => 0))))] : va_W) = WCL cI cS cJ ad al (C0, L0) := by
    rw [h64, ← a0, ← a1, ← a2, List.append_assoc, List.append_assoc]
    rfl
  rw [eW] at hD2 ⊢
  rw [← a0, ← a1, ← a2]
  have hI := lwD_of hD2
  have hAA : ∀ q, lwA ad al q → A q := fun q hq => by
    rcases hq with ⟨i, hi, e⟩ | ⟨i, hi, e⟩
    · rw [e]
      exact hI2 i hi
    · rw [e]
      rcases (show i = 0 ∨ i = 1 ∨ i = 2 by omega) with rfl | rfl | rfl
      · rw [a0]; exact Y.2.2.1 _ hq0
      · rw [a1]; exact Y.2.2.1 _ hq1
      · rw [a2]; exact Y.2.2.1 _ hq2
  obtain ⟨L1, eL, hR⟩ := RW_start (N := 3000) (Nat.le_refl _)
  refine j_astore (pc := 22) (i := 4) X dL_law_22 (by decide) rfl ?_
  refine j_aload_n (pc := 24) (i := 2) X dL_law_24 rfl ?_
  refine j_aload_n (pc := 25) (i := 3) X dL_law_25 rfl ?_
  refine z_callVL (g := gC g (132 + 1 + 1 + 1) (4020 + 8 + 26 + 14)) (pc := 26) (R := WC cI cS ad C0) (W0 := WL3 cI cJ al L0) (W1 := WL3 cI cJ al L1) (B := kAd 3 al) X hJ Y.2.1 (fun q hq => hAA q (Or.inr hq)) (fun k x hx => by
    obtain ⟨h1, h2⟩ := WC_ad hx
    rintro ⟨i, hi, e⟩
    exact hI.2.2 k i h1 hi (h2.symm.trans e)) (c_L_begins hI.2.1 3000 L0 eL) gL_law_L_begins rfl ⟨rfl, rfl⟩ hd_L_begins ⟨(Nat.le_of_ble_eq_true rfl), (Nat.le_of_ble_eq_true rfl)⟩ rfl (Nat.le_of_ble_eq_true rfl) rfl dL_law_26 ?_
  exact y_rest (g := g) (p := (C0, L1)) ⟨fun cs sl h1 h2 => Y.x h1 h2, Y.2.1, hI, hAA, hJ, hZ, hX, hb, hbA, hE⟩ hL (Nat.le_of_ble_eq_true rfl) (Nat.le_of_ble_eq_true rfl) hR
/-- from the entry, for every script of at most 260 ints, the law comes to its end with true -/
theorem whole_start {p : Program} {e : Env} {s : State} {m : MethodId} {below : List Frame} {meth : Method} {c : Code} (l : Launch) (hflags : l.flags = flags0) {b L : Nat} {xs : Nat → Int32} (hL : L ≤ 260) (C0 : lw_At p s m meth c b L xs) : W p l e room_1 s m #[Value.ref b] below meth c s.heap [] 0 0 (lw_Z below #[Value.ref b] s) (entryFrame m ([Value.ref b] : List Value).toArray 8) := by
  obtain ⟨hx, hb, hr, hml, hown, hts, hX, hbl, hlocks, hgv⟩ := C0
  obtain ⟨D, cI, cS, hK⟩ := pr_K hts
  obtain ⟨cJ, hJ⟩ := pr_KJ hts hK
  have hA0 : ∀ a : Nat, a < s.heap.size → ¬ (fun q : Nat => s.heap.size ≤ q) a := fun a h => Nat.not_le.mpr h
  obtain ⟨tw, tv, LV, GV, hEi, hZ⟩ := pr_E hts hgv (hK.1.2 0 (cI, .int) rfl).2 hA0
  rw [lg_entry_eq]
  have hJW : JW ((p, l, e, room_1, s), (m, #[Value.ref b], below, meth, c), va_S (fun q : Nat => s.heap.size ≤ q) s.heap, D, (0, 0), lw_Z below #[Value.ref b] s) 0 0 8 [] 0 [some (.ref b), none, none, none, none, none, none, none] [] :=
    law_go (cJ := cJ) (A := fun q : Nat => s.heap.size ≤ q) (tw := tw) (tv := tv) (LV := LV) (GV := GV) (L := L) (xs := xs) ⟨⟨hx, hb, hml, hown, fun w h => hts w (wsL_law_in w h), hK, rfl, Nat.zero_le _, Nat.zero_le _⟩, rfl, fun _ h => h, hEi, eHi_ok cI tw tv⟩ hJ hZ hX hbl (Nat.not_le.mpr hbl) hL (fun ws lv H locs ls hP hS hl => by
      have hS : va_S (fun q : Nat => s.heap.size ≤ q) s.heap H locs := hS
      show W p l e room_1 s m #[Value.ref b] below meth c H locs 1200000 5502250 (lw_Z below #[Value.ref b] s) (F0 m 224 ls [.int 1])
      refine va_forget (fun q hq => hS.2.2 q hq) ?_
      exact lw_ret hx hb hr hlocks dL_law_224)
  exact hJW s.heap [] _ (fun k q h => by simp [kWs] at h) va_S.rf (kO.entry (vs := [.ref b]) (fun w h => by
    have h1 : w = .ref b := by simpa using h
    rw [h1]
    rfl) (Nat.le_of_ble_eq_true rfl))
