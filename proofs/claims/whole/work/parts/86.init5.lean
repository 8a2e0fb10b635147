/-! ===== constructor BlackBarsModel ===== -/
def m9s (M : kS) (j : Nat) (v : Int32) : kS := up1 M 1 (upd (M 1) j v)
def mk9 : Nat → kS
  | 0 => m9s (m9s (m9s (m9s (fun _ _ => 0) 4 (nI 10)) 5 (nI 3)) 6 (nI 3)) 7 (nI 80)
  | k + 1 => m9s (mk9 k) (8 + k) (FWt k)
theorem iwi_X9_init_X9 : ∀ w ∈ u_ws RX9 TX9 15, w ∈ wsX9_init := by decide +kernel
theorem lki_X9_7 : Cond.fieldLink RX9 7 "BlackBarsModel" "s" "[I" ∈ wsX9_init := by decide +kernel
abbrev rmi_X9 : Room := { frames := 1, cells := 10, slots := 3690, locals := 16 }
theorem m9_D {A : Nat → Prop} {cI : ClassId} {am : Nat → Nat} {M : kS} (h : va_D A (WM cI am M)) (M' : kS) : va_D A (WM cI am M') := by
  have e : ∀ (M : kS) (i : Nat) (p : Nat × va_E), (WM cI am M)[i]? = some p → i < 11 ∧ p.1 = am i := by
    intro M i p hp
    have hi : i < 11 := by
      have h1 := (List.getElem?_eq_some_iff.mp hp).1
      simpa [WM] using h1
    rw [WM_at hi] at hp
    cases hp
    exact ⟨hi, rfl⟩
  refine ⟨fun i j p q hp hq hpq => ?_, fun k q hq => ?_⟩
  · obtain ⟨a1, a2⟩ := e M' i p hp
    obtain ⟨b1, b2⟩ := e M' j q hq
    exact h.1 i j _ _ (WM_at a1) (WM_at b1) (by show am i = am j; rw [← a2, ← b2]; exact hpq)
  · obtain ⟨a1, a2⟩ := e M' k q hq
    rw [a2]
    exact h.2 k _ (WM_at a1)
section M9
variable {g : kG} {cI cS : ClassId} {rm : Room} {A : Nat → Prop} {am : Nat → Nat} {M : kS} {o2 o3 o4 : Option Value}
theorem m9_0 (X : Kx (gS g 10 3690) cI cS cX9_init RX9 wsX9_init 5 rm) (Yw : Kw (gS g 10 3690) (WM cI am) A) (kk : ∀ o2 o3 o4 : Option Value, J (gS g 10 3690) (WM cI am) 5 (m9s M (8 + 0) (FWt 0)) 121 [some (.ref (am 0)), some (.int (nI 1)), o2, o3, o4] []) : J (gS g 10 3690) (WM cI am) 5 M 121 [some (.ref (am 0)), some (.int (nI 0)), o2, o3, o4] [] := by
  refine j_iload_n (pc := 121) X dX9_init_121 rfl ?_
  refine j_bipush (pc := 122) (v := nI 26) X dX9_init_122 (by decide +kernel) ?_
  refine j_icmp_ge (pc := 124) (tgt := 231) X dX9_init_124 (by decide +kernel) (fun h => absurd h (by decide +kernel)) (fun _ => ?_)
  refine j_iload_n (pc := 127) X dX9_init_127 rfl ?_
  refine j_bipush (pc := 128) (v := nI 97) X dX9_init_128 (by decide +kernel) ?_
  refine j_iadd (pc := 130) X dX9_init_130 ?_
  rw [show nI 0 + nI 97 = nI 97 by decide +kernel]
  refine j_istore_n (pc := 131) X dX9_init_131 (by decide +kernel) rfl ?_
  refine j_iload_n (pc := 132) X dX9_init_132 rfl ?_
  refine j_bipush (pc := 133) (v := nI 105) X dX9_init_133 (by decide +kernel) ?_
  refine j_icmp_eq (pc := 135) (tgt := 150) X dX9_init_135 (by decide +kernel) (fun h => absurd h (by decide +kernel)) (fun _ => ?_)
  refine j_iload_n (pc := 138) X dX9_init_138 rfl ?_
  refine j_bipush (pc := 139) (v := nI 106) X dX9_init_139 (by decide +kernel) ?_
  refine j_icmp_eq (pc := 141) (tgt := 150) X dX9_init_141 (by decide +kernel) (fun h => absurd h (by decide +kernel)) (fun _ => ?_)
  refine j_iload_n (pc := 144) X dX9_init_144 rfl ?_
  refine j_bipush (pc := 145) (v := nI 108) X dX9_init_145 (by decide +kernel) ?_
  refine j_icmp_ne (pc := 147) (tgt := 154) X dX9_init_147 (by decide +kernel) (fun _ => ?_) (fun h => absurd h (by decide +kernel))
  refine j_iconst (pc := 154) (v := nI 0) X dX9_init_154 (by decide +kernel) ?_
  refine j_istore_n (pc := 155) X dX9_init_155 (by decide +kernel) rfl ?_
  refine j_iload_n (pc := 156) X dX9_init_156 rfl ?_
  refine j_bipush (pc := 157) (v := nI 102) X dX9_init_157 (by decide +kernel) ?_
  refine j_icmp_eq (pc := 159) (tgt := 174) X dX9_init_159 (by decide +kernel) (fun h => absurd h (by decide +kernel)) (fun _ => ?_)
  refine j_iload_n (pc := 162) X dX9_init_162 rfl ?_
  refine j_bipush (pc := 163) (v := nI 114) X dX9_init_163 (by decide +kernel) ?_
  refine j_icmp_eq (pc := 165) (tgt := 174) X dX9_init_165 (by decide +kernel) (fun h => absurd h (by decide +kernel)) (fun _ => ?_)
  refine j_iload_n (pc := 168) X dX9_init_168 rfl ?_
  refine j_bipush (pc := 169) (v := nI 116) X dX9_init_169 (by decide +kernel) ?_
  refine j_icmp_ne (pc := 171) (tgt := 178) X dX9_init_171 (by decide +kernel) (fun _ => ?_) (fun h => absurd h (by decide +kernel))
  refine j_iconst (pc := 178) (v := nI 0) X dX9_init_178 (by decide +kernel) ?_
  refine j_istore (pc := 179) X dX9_init_179 (by decide +kernel) rfl ?_
  refine j_aload_n (pc := 181) X dX9_init_181 rfl ?_
  refine j_get (pc := 182) X iwi_X9_init_X9 wm0 rfl 0 (Nat.le_of_ble_eq_true rfl) lki_X9_7 (v := .ref (am 1)) rfl dX9_init_182 ?_
  refine j_bipush (pc := 185) (v := nI 8) X dX9_init_185 (by decide +kernel) ?_
  refine j_iload_n (pc := 187) X dX9_init_187 rfl ?_
  refine j_iadd (pc := 188) X dX9_init_188 ?_
  rw [show nI 8 + nI 0 = nI 8 by decide +kernel]
  refine j_iload_n (pc := 189) X dX9_init_189 rfl ?_
  refine j_if_eq (pc := 190) (tgt := 197) X dX9_init_190 (by decide +kernel) (fun _ => ?_) (fun h => absurd (by decide +kernel) h)
  refine j_iload (pc := 197) X dX9_init_197 rfl ?_
  refine j_if_eq (pc := 199) (tgt := 206) X dX9_init_199 (by decide +kernel) (fun _ => ?_) (fun h => absurd (by decide +kernel) h)
  refine j_iload_n (pc := 206) X dX9_init_206 rfl ?_
  refine j_bipush (pc := 207) (v := nI 109) X dX9_init_207 (by decide +kernel) ?_
  refine j_icmp_eq (pc := 209) (tgt := 218) X dX9_init_209 (by decide +kernel) (fun h => absurd h (by decide +kernel)) (fun _ => ?_)
  refine j_iload_n (pc := 212) X dX9_init_212 rfl ?_
  refine j_bipush (pc := 213) (v := nI 119) X dX9_init_213 (by decide +kernel) ?_
  refine j_icmp_ne (pc := 215) (tgt := 223) X dX9_init_215 (by decide +kernel) (fun _ => ?_) (fun h => absurd h (by decide +kernel))
  refine j_iconst (pc := 223) (v := FWt 0) X dX9_init_223 (by decide +kernel) ?_
  refine j_iast (C' := m9s M (8 + 0) (FWt 0)) (pc := 224) X Yw wm1 (vp_in_nI (by decide +kernel) (by decide +kernel)) dX9_init_224 (by rw [nI_clamp (by decide +kernel)]; exact sm1 _) ?_
  refine j_iinc (pc := 225) (v := nI 1) X dX9_init_225 rfl (by decide +kernel) (by decide +kernel) rfl ?_
  refine j_goto (pc := 228) (tgt := 121) X dX9_init_228 (by decide +kernel) ?_
  exact kk _ _ _
theorem m9_1 (X : Kx (gS g 10 3690) cI cS cX9_init RX9 wsX9_init 5 rm) (Yw : Kw (gS g 10 3690) (WM cI am) A) (kk : ∀ o2 o3 o4 : Option Value, J (gS g 10 3690) (WM cI am) 5 (m9s M (8 + 1) (FWt 1)) 121 [some (.ref (am 0)), some (.int (nI 2)), o2, o3, o4] []) : J (gS g 10 3690) (WM cI am) 5 M 121 [some (.ref (am 0)), some (.int (nI 1)), o2, o3, o4] [] := by
  refine j_iload_n (pc := 121) X dX9_init_121 rfl ?_
  refine j_bipush (pc := 122) (v := nI 26) X dX9_init_122 (by decide +kernel) ?_
  refine j_icmp_ge (pc := 124) (tgt := 231) X dX9_init_124 (by decide +kernel) (fun h => absurd h (by decide +kernel)) (fun _ => ?_)
  refine j_iload_n (pc := 127) X dX9_init_127 rfl ?_
  refine j_bipush (pc := 128) (v := nI 97) X dX9_init_128 (by decide +kernel) ?_
  refine j_iadd (pc := 130) X dX9_init_130 ?_
  rw [show nI 1 + nI 97 = nI 98 by decide +kernel]
  refine j_istore_n (pc := 131) X dX9_init_131 (by decide +kernel) rfl ?_
  refine j_iload_n (pc := 132) X dX9_init_132 rfl ?_
  refine j_bipush (pc := 133) (v := nI 105) X dX9_init_133 (by decide +kernel) ?_
  refine j_icmp_eq (pc := 135) (tgt := 150) X dX9_init_135 (by decide +kernel) (fun h => absurd h (by decide +kernel)) (fun _ => ?_)
  refine j_iload_n (pc := 138) X dX9_init_138 rfl ?_
  refine j_bipush (pc := 139) (v := nI 106) X dX9_init_139 (by decide +kernel) ?_
  refine j_icmp_eq (pc := 141) (tgt := 150) X dX9_init_141 (by decide +kernel) (fun h => absurd h (by decide +kernel)) (fun _ => ?_)
  refine j_iload_n (pc := 144) X dX9_init_144 rfl ?_
  refine j_bipush (pc := 145) (v := nI 108) X dX9_init_145 (by decide +kernel) ?_
  refine j_icmp_ne (pc := 147) (tgt := 154) X dX9_init_147 (by decide +kernel) (fun _ => ?_) (fun h => absurd h (by decide +kernel))
  refine j_iconst (pc := 154) (v := nI 0) X dX9_init_154 (by decide +kernel) ?_
  refine j_istore_n (pc := 155) X dX9_init_155 (by decide +kernel) rfl ?_
  refine j_iload_n (pc := 156) X dX9_init_156 rfl ?_
  refine j_bipush (pc := 157) (v := nI 102) X dX9_init_157 (by decide +kernel) ?_
  refine j_icmp_eq (pc := 159) (tgt := 174) X dX9_init_159 (by decide +kernel) (fun h => absurd h (by decide +kernel)) (fun _ => ?_)
  refine j_iload_n (pc := 162) X dX9_init_162 rfl ?_
  refine j_bipush (pc := 163) (v := nI 114) X dX9_init_163 (by decide +kernel) ?_
  refine j_icmp_eq (pc := 165) (tgt := 174) X dX9_init_165 (by decide +kernel) (fun h => absurd h (by decide +kernel)) (fun _ => ?_)
  refine j_iload_n (pc := 168) X dX9_init_168 rfl ?_
  refine j_bipush (pc := 169) (v := nI 116) X dX9_init_169 (by decide +kernel) ?_
  refine j_icmp_ne (pc := 171) (tgt := 178) X dX9_init_171 (by decide +kernel) (fun _ => ?_) (fun h => absurd h (by decide +kernel))
  refine j_iconst (pc := 178) (v := nI 0) X dX9_init_178 (by decide +kernel) ?_
  refine j_istore (pc := 179) X dX9_init_179 (by decide +kernel) rfl ?_
  refine j_aload_n (pc := 181) X dX9_init_181 rfl ?_
  refine j_get (pc := 182) X iwi_X9_init_X9 wm0 rfl 0 (Nat.le_of_ble_eq_true rfl) lki_X9_7 (v := .ref (am 1)) rfl dX9_init_182 ?_
  refine j_bipush (pc := 185) (v := nI 8) X dX9_init_185 (by decide +kernel) ?_
  refine j_iload_n (pc := 187) X dX9_init_187 rfl ?_
  refine j_iadd (pc := 188) X dX9_init_188 ?_
  rw [show nI 8 + nI 1 = nI 9 by decide +kernel]
  refine j_iload_n (pc := 189) X dX9_init_189 rfl ?_
  refine j_if_eq (pc := 190) (tgt := 197) X dX9_init_190 (by decide +kernel) (fun _ => ?_) (fun h => absurd (by decide +kernel) h)
  refine j_iload (pc := 197) X dX9_init_197 rfl ?_
  refine j_if_eq (pc := 199) (tgt := 206) X dX9_init_199 (by decide +kernel) (fun _ => ?_) (fun h => absurd (by decide +kernel) h)
  refine j_iload_n (pc := 206) X dX9_init_206 rfl ?_
  refine j_bipush (pc := 207) (v := nI 109) X dX9_init_207 (by decide +kernel) ?_
  refine j_icmp_eq (pc := 209) (tgt := 218) X dX9_init_209 (by decide +kernel) (fun h => absurd h (by decide +kernel)) (fun _ => ?_)
  refine j_iload_n (pc := 212) X dX9_init_212 rfl ?_
  refine j_bipush (pc := 213) (v := nI 119) X dX9_init_213 (by decide +kernel) ?_
  refine j_icmp_ne (pc := 215) (tgt := 223) X dX9_init_215 (by decide +kernel) (fun _ => ?_) (fun h => absurd h (by decide +kernel))
  refine j_iconst (pc := 223) (v := FWt 1) X dX9_init_223 (by decide +kernel) ?_
  refine j_iast (C' := m9s M (8 + 1) (FWt 1)) (pc := 224) X Yw wm1 (vp_in_nI (by decide +kernel) (by decide +kernel)) dX9_init_224 (by rw [nI_clamp (by decide +kernel)]; exact sm1 _) ?_
  refine j_iinc (pc := 225) (v := nI 2) X dX9_init_225 rfl (by decide +kernel) (by decide +kernel) rfl ?_
  refine j_goto (pc := 228) (tgt := 121) X dX9_init_228 (by decide +kernel) ?_
  exact kk _ _ _
theorem m9_2 (X : Kx (gS g 10 3690) cI cS cX9_init RX9 wsX9_init 5 rm) (Yw : Kw (gS g 10 3690) (WM cI am) A) (kk : ∀ o2 o3 o4 : Option Value, J (gS g 10 3690) (WM cI am) 5 (m9s M (8 + 2) (FWt 2)) 121 [some (.ref (am 0)), some (.int (nI 3)), o2, o3, o4] []) : J (gS g 10 3690) (WM cI am) 5 M 121 [some (.ref (am 0)), some (.int (nI 2)), o2, o3, o4] [] := by
  refine j_iload_n (pc := 121) X dX9_init_121 rfl ?_
  refine j_bipush (pc := 122) (v := nI 26) X dX9_init_122 (by decide +kernel) ?_
  refine j_icmp_ge (pc := 124) (tgt := 231) X dX9_init_124 (by decide +kernel) (fun h => absurd h (by decide +kernel)) (fun _ => ?_)
  refine j_iload_n (pc := 127) X dX9_init_127 rfl ?_
  refine j_bipush (pc := 128) (v := nI 97) X dX9_init_128 (by decide +kernel) ?_
  refine j_iadd (pc := 130) X dX9_init_130 ?_
  rw [show nI 2 + nI 97 = nI 99 by decide +kernel]
  refine j_istore_n (pc := 131) X dX9_init_131 (by decide +kernel) rfl ?_
  refine j_iload_n (pc := 132) X dX9_init_132 rfl ?_
  refine j_bipush (pc := 133) (v := nI 105) X dX9_init_133 (by decide +kernel) ?_
  refine j_icmp_eq (pc := 135) (tgt := 150) X dX9_init_135 (by decide +kernel) (fun h => absurd h (by decide +kernel)) (fun _ => ?_)
  refine j_iload_n (pc := 138) X dX9_init_138 rfl ?_
  refine j_bipush (pc := 139) (v := nI 106) X dX9_init_139 (by decide +kernel) ?_
  refine j_icmp_eq (pc := 141) (tgt := 150) X dX9_init_141 (by decide +kernel) (fun h => absurd h (by decide +kernel)) (fun _ => ?_)
  refine j_iload_n (pc := 144) X dX9_init_144 rfl ?_
  refine j_bipush (pc := 145) (v := nI 108) X dX9_init_145 (by decide +kernel) ?_
  refine j_icmp_ne (pc := 147) (tgt := 154) X dX9_init_147 (by decide +kernel) (fun _ => ?_) (fun h => absurd h (by decide +kernel))
  refine j_iconst (pc := 154) (v := nI 0) X dX9_init_154 (by decide +kernel) ?_
  refine j_istore_n (pc := 155) X dX9_init_155 (by decide +kernel) rfl ?_
  refine j_iload_n (pc := 156) X dX9_init_156 rfl ?_
  refine j_bipush (pc := 157) (v := nI 102) X dX9_init_157 (by decide +kernel) ?_
  refine j_icmp_eq (pc := 159) (tgt := 174) X dX9_init_159 (by decide +kernel) (fun h => absurd h (by decide +kernel)) (fun _ => ?_)
  refine j_iload_n (pc := 162) X dX9_init_162 rfl ?_
  refine j_bipush (pc := 163) (v := nI 114) X dX9_init_163 (by decide +kernel) ?_
  refine j_icmp_eq (pc := 165) (tgt := 174) X dX9_init_165 (by decide +kernel) (fun h => absurd h (by decide +kernel)) (fun _ => ?_)
  refine j_iload_n (pc := 168) X dX9_init_168 rfl ?_
  refine j_bipush (pc := 169) (v := nI 116) X dX9_init_169 (by decide +kernel) ?_
  refine j_icmp_ne (pc := 171) (tgt := 178) X dX9_init_171 (by decide +kernel) (fun _ => ?_) (fun h => absurd h (by decide +kernel))
  refine j_iconst (pc := 178) (v := nI 0) X dX9_init_178 (by decide +kernel) ?_
  refine j_istore (pc := 179) X dX9_init_179 (by decide +kernel) rfl ?_
  refine j_aload_n (pc := 181) X dX9_init_181 rfl ?_
  refine j_get (pc := 182) X iwi_X9_init_X9 wm0 rfl 0 (Nat.le_of_ble_eq_true rfl) lki_X9_7 (v := .ref (am 1)) rfl dX9_init_182 ?_
  refine j_bipush (pc := 185) (v := nI 8) X dX9_init_185 (by decide +kernel) ?_
  refine j_iload_n (pc := 187) X dX9_init_187 rfl ?_
  refine j_iadd (pc := 188) X dX9_init_188 ?_
  rw [show nI 8 + nI 2 = nI 10 by decide +kernel]
  refine j_iload_n (pc := 189) X dX9_init_189 rfl ?_
  refine j_if_eq (pc := 190) (tgt := 197) X dX9_init_190 (by decide +kernel) (fun _ => ?_) (fun h => absurd (by decide +kernel) h)
  refine j_iload (pc := 197) X dX9_init_197 rfl ?_
  refine j_if_eq (pc := 199) (tgt := 206) X dX9_init_199 (by decide +kernel) (fun _ => ?_) (fun h => absurd (by decide +kernel) h)
  refine j_iload_n (pc := 206) X dX9_init_206 rfl ?_
  refine j_bipush (pc := 207) (v := nI 109) X dX9_init_207 (by decide +kernel) ?_
  refine j_icmp_eq (pc := 209) (tgt := 218) X dX9_init_209 (by decide +kernel) (fun h => absurd h (by decide +kernel)) (fun _ => ?_)
  refine j_iload_n (pc := 212) X dX9_init_212 rfl ?_
  refine j_bipush (pc := 213) (v := nI 119) X dX9_init_213 (by decide +kernel) ?_
  refine j_icmp_ne (pc := 215) (tgt := 223) X dX9_init_215 (by decide +kernel) (fun _ => ?_) (fun h => absurd h (by decide +kernel))
  refine j_iconst (pc := 223) (v := FWt 2) X dX9_init_223 (by decide +kernel) ?_
  refine j_iast (C' := m9s M (8 + 2) (FWt 2)) (pc := 224) X Yw wm1 (vp_in_nI (by decide +kernel) (by decide +kernel)) dX9_init_224 (by rw [nI_clamp (by decide +kernel)]; exact sm1 _) ?_
  refine j_iinc (pc := 225) (v := nI 3) X dX9_init_225 rfl (by decide +kernel) (by decide +kernel) rfl ?_
  refine j_goto (pc := 228) (tgt := 121) X dX9_init_228 (by decide +kernel) ?_
  exact kk _ _ _
theorem m9_3 (X : Kx (gS g 10 3690) cI cS cX9_init RX9 wsX9_init 5 rm) (Yw : Kw (gS g 10 3690) (WM cI am) A) (kk : ∀ o2 o3 o4 : Option Value, J (gS g 10 3690) (WM cI am) 5 (m9s M (8 + 3) (FWt 3)) 121 [some (.ref (am 0)), some (.int (nI 4)), o2, o3, o4] []) : J (gS g 10 3690) (WM cI am) 5 M 121 [some (.ref (am 0)), some (.int (nI 3)), o2, o3, o4] [] := by
  refine j_iload_n (pc := 121) X dX9_init_121 rfl ?_
  refine j_bipush (pc := 122) (v := nI 26) X dX9_init_122 (by decide +kernel) ?_
  refine j_icmp_ge (pc := 124) (tgt := 231) X dX9_init_124 (by decide +kernel) (fun h => absurd h (by decide +kernel)) (fun _ => ?_)
  refine j_iload_n (pc := 127) X dX9_init_127 rfl ?_
  refine j_bipush (pc := 128) (v := nI 97) X dX9_init_128 (by decide +kernel) ?_
  refine j_iadd (pc := 130) X dX9_init_130 ?_
  rw [show nI 3 + nI 97 = nI 100 by decide +kernel]
  refine j_istore_n (pc := 131) X dX9_init_131 (by decide +kernel) rfl ?_
  refine j_iload_n (pc := 132) X dX9_init_132 rfl ?_
  refine j_bipush (pc := 133) (v := nI 105) X dX9_init_133 (by decide +kernel) ?_
  refine j_icmp_eq (pc := 135) (tgt := 150) X dX9_init_135 (by decide +kernel) (fun h => absurd h (by decide +kernel)) (fun _ => ?_)
  refine j_iload_n (pc := 138) X dX9_init_138 rfl ?_
  refine j_bipush (pc := 139) (v := nI 106) X dX9_init_139 (by decide +kernel) ?_
  refine j_icmp_eq (pc := 141) (tgt := 150) X dX9_init_141 (by decide +kernel) (fun h => absurd h (by decide +kernel)) (fun _ => ?_)
  refine j_iload_n (pc := 144) X dX9_init_144 rfl ?_
  refine j_bipush (pc := 145) (v := nI 108) X dX9_init_145 (by decide +kernel) ?_
  refine j_icmp_ne (pc := 147) (tgt := 154) X dX9_init_147 (by decide +kernel) (fun _ => ?_) (fun h => absurd h (by decide +kernel))
  refine j_iconst (pc := 154) (v := nI 0) X dX9_init_154 (by decide +kernel) ?_
  refine j_istore_n (pc := 155) X dX9_init_155 (by decide +kernel) rfl ?_
  refine j_iload_n (pc := 156) X dX9_init_156 rfl ?_
  refine j_bipush (pc := 157) (v := nI 102) X dX9_init_157 (by decide +kernel) ?_
  refine j_icmp_eq (pc := 159) (tgt := 174) X dX9_init_159 (by decide +kernel) (fun h => absurd h (by decide +kernel)) (fun _ => ?_)
  refine j_iload_n (pc := 162) X dX9_init_162 rfl ?_
  refine j_bipush (pc := 163) (v := nI 114) X dX9_init_163 (by decide +kernel) ?_
  refine j_icmp_eq (pc := 165) (tgt := 174) X dX9_init_165 (by decide +kernel) (fun h => absurd h (by decide +kernel)) (fun _ => ?_)
  refine j_iload_n (pc := 168) X dX9_init_168 rfl ?_
  refine j_bipush (pc := 169) (v := nI 116) X dX9_init_169 (by decide +kernel) ?_
  refine j_icmp_ne (pc := 171) (tgt := 178) X dX9_init_171 (by decide +kernel) (fun _ => ?_) (fun h => absurd h (by decide +kernel))
  refine j_iconst (pc := 178) (v := nI 0) X dX9_init_178 (by decide +kernel) ?_
  refine j_istore (pc := 179) X dX9_init_179 (by decide +kernel) rfl ?_
  refine j_aload_n (pc := 181) X dX9_init_181 rfl ?_
  refine j_get (pc := 182) X iwi_X9_init_X9 wm0 rfl 0 (Nat.le_of_ble_eq_true rfl) lki_X9_7 (v := .ref (am 1)) rfl dX9_init_182 ?_
  refine j_bipush (pc := 185) (v := nI 8) X dX9_init_185 (by decide +kernel) ?_
  refine j_iload_n (pc := 187) X dX9_init_187 rfl ?_
  refine j_iadd (pc := 188) X dX9_init_188 ?_
  rw [show nI 8 + nI 3 = nI 11 by decide +kernel]
  refine j_iload_n (pc := 189) X dX9_init_189 rfl ?_
  refine j_if_eq (pc := 190) (tgt := 197) X dX9_init_190 (by decide +kernel) (fun _ => ?_) (fun h => absurd (by decide +kernel) h)
  refine j_iload (pc := 197) X dX9_init_197 rfl ?_
  refine j_if_eq (pc := 199) (tgt := 206) X dX9_init_199 (by decide +kernel) (fun _ => ?_) (fun h => absurd (by decide +kernel) h)
  refine j_iload_n (pc := 206) X dX9_init_206 rfl ?_
  refine j_bipush (pc := 207) (v := nI 109) X dX9_init_207 (by decide +kernel) ?_
  refine j_icmp_eq (pc := 209) (tgt := 218) X dX9_init_209 (by decide +kernel) (fun h => absurd h (by decide +kernel)) (fun _ => ?_)
  refine j_iload_n (pc := 212) X dX9_init_212 rfl ?_
  refine j_bipush (pc := 213) (v := nI 119) X dX9_init_213 (by decide +kernel) ?_
  refine j_icmp_ne (pc := 215) (tgt := 223) X dX9_init_215 (by decide +kernel) (fun _ => ?_) (fun h => absurd h (by decide +kernel))
  refine j_iconst (pc := 223) (v := FWt 3) X dX9_init_223 (by decide +kernel) ?_
  refine j_iast (C' := m9s M (8 + 3) (FWt 3)) (pc := 224) X Yw wm1 (vp_in_nI (by decide +kernel) (by decide +kernel)) dX9_init_224 (by rw [nI_clamp (by decide +kernel)]; exact sm1 _) ?_
  refine j_iinc (pc := 225) (v := nI 4) X dX9_init_225 rfl (by decide +kernel) (by decide +kernel) rfl ?_
  refine j_goto (pc := 228) (tgt := 121) X dX9_init_228 (by decide +kernel) ?_
  exact kk _ _ _
theorem m9_4 (X : Kx (gS g 10 3690) cI cS cX9_init RX9 wsX9_init 5 rm) (Yw : Kw (gS g 10 3690) (WM cI am) A) (kk : ∀ o2 o3 o4 : Option Value, J (gS g 10 3690) (WM cI am) 5 (m9s M (8 + 4) (FWt 4)) 121 [some (.ref (am 0)), some (.int (nI 5)), o2, o3, o4] []) : J (gS g 10 3690) (WM cI am) 5 M 121 [some (.ref (am 0)), some (.int (nI 4)), o2, o3, o4] [] := by
  refine j_iload_n (pc := 121) X dX9_init_121 rfl ?_
  refine j_bipush (pc := 122) (v := nI 26) X dX9_init_122 (by decide +kernel) ?_
  refine j_icmp_ge (pc := 124) (tgt := 231) X dX9_init_124 (by decide +kernel) (fun h => absurd h (by decide +kernel)) (fun _ => ?_)
  refine j_iload_n (pc := 127) X dX9_init_127 rfl ?_
  refine j_bipush (pc := 128) (v := nI 97) X dX9_init_128 (by decide +kernel) ?_
  refine j_iadd (pc := 130) X dX9_init_130 ?_
  rw [show nI 4 + nI 97 = nI 101 by decide +kernel]
  refine j_istore_n (pc := 131) X dX9_init_131 (by decide +kernel) rfl ?_
  refine j_iload_n (pc := 132) X dX9_init_132 rfl ?_
  refine j_bipush (pc := 133) (v := nI 105) X dX9_init_133 (by decide +kernel) ?_
  refine j_icmp_eq (pc := 135) (tgt := 150) X dX9_init_135 (by decide +kernel) (fun h => absurd h (by decide +kernel)) (fun _ => ?_)
  refine j_iload_n (pc := 138) X dX9_init_138 rfl ?_
  refine j_bipush (pc := 139) (v := nI 106) X dX9_init_139 (by decide +kernel) ?_
  refine j_icmp_eq (pc := 141) (tgt := 150) X dX9_init_141 (by decide +kernel) (fun h => absurd h (by decide +kernel)) (fun _ => ?_)
  refine j_iload_n (pc := 144) X dX9_init_144 rfl ?_
  refine j_bipush (pc := 145) (v := nI 108) X dX9_init_145 (by decide +kernel) ?_
  refine j_icmp_ne (pc := 147) (tgt := 154) X dX9_init_147 (by decide +kernel) (fun _ => ?_) (fun h => absurd h (by decide +kernel))
  refine j_iconst (pc := 154) (v := nI 0) X dX9_init_154 (by decide +kernel) ?_
  refine j_istore_n (pc := 155) X dX9_init_155 (by decide +kernel) rfl ?_
  refine j_iload_n (pc := 156) X dX9_init_156 rfl ?_
  refine j_bipush (pc := 157) (v := nI 102) X dX9_init_157 (by decide +kernel) ?_
  refine j_icmp_eq (pc := 159) (tgt := 174) X dX9_init_159 (by decide +kernel) (fun h => absurd h (by decide +kernel)) (fun _ => ?_)
  refine j_iload_n (pc := 162) X dX9_init_162 rfl ?_
  refine j_bipush (pc := 163) (v := nI 114) X dX9_init_163 (by decide +kernel) ?_
  refine j_icmp_eq (pc := 165) (tgt := 174) X dX9_init_165 (by decide +kernel) (fun h => absurd h (by decide +kernel)) (fun _ => ?_)
  refine j_iload_n (pc := 168) X dX9_init_168 rfl ?_
  refine j_bipush (pc := 169) (v := nI 116) X dX9_init_169 (by decide +kernel) ?_
  refine j_icmp_ne (pc := 171) (tgt := 178) X dX9_init_171 (by decide +kernel) (fun _ => ?_) (fun h => absurd h (by decide +kernel))
  refine j_iconst (pc := 178) (v := nI 0) X dX9_init_178 (by decide +kernel) ?_
  refine j_istore (pc := 179) X dX9_init_179 (by decide +kernel) rfl ?_
  refine j_aload_n (pc := 181) X dX9_init_181 rfl ?_
  refine j_get (pc := 182) X iwi_X9_init_X9 wm0 rfl 0 (Nat.le_of_ble_eq_true rfl) lki_X9_7 (v := .ref (am 1)) rfl dX9_init_182 ?_
  refine j_bipush (pc := 185) (v := nI 8) X dX9_init_185 (by decide +kernel) ?_
  refine j_iload_n (pc := 187) X dX9_init_187 rfl ?_
  refine j_iadd (pc := 188) X dX9_init_188 ?_
  rw [show nI 8 + nI 4 = nI 12 by decide +kernel]
  refine j_iload_n (pc := 189) X dX9_init_189 rfl ?_
  refine j_if_eq (pc := 190) (tgt := 197) X dX9_init_190 (by decide +kernel) (fun _ => ?_) (fun h => absurd (by decide +kernel) h)
  refine j_iload (pc := 197) X dX9_init_197 rfl ?_
  refine j_if_eq (pc := 199) (tgt := 206) X dX9_init_199 (by decide +kernel) (fun _ => ?_) (fun h => absurd (by decide +kernel) h)
  refine j_iload_n (pc := 206) X dX9_init_206 rfl ?_
  refine j_bipush (pc := 207) (v := nI 109) X dX9_init_207 (by decide +kernel) ?_
  refine j_icmp_eq (pc := 209) (tgt := 218) X dX9_init_209 (by decide +kernel) (fun h => absurd h (by decide +kernel)) (fun _ => ?_)
  refine j_iload_n (pc := 212) X dX9_init_212 rfl ?_
  refine j_bipush (pc := 213) (v := nI 119) X dX9_init_213 (by decide +kernel) ?_
  refine j_icmp_ne (pc := 215) (tgt := 223) X dX9_init_215 (by decide +kernel) (fun _ => ?_) (fun h => absurd h (by decide +kernel))
  refine j_iconst (pc := 223) (v := FWt 4) X dX9_init_223 (by decide +kernel) ?_
  refine j_iast (C' := m9s M (8 + 4) (FWt 4)) (pc := 224) X Yw wm1 (vp_in_nI (by decide +kernel) (by decide +kernel)) dX9_init_224 (by rw [nI_clamp (by decide +kernel)]; exact sm1 _) ?_
  refine j_iinc (pc := 225) (v := nI 5) X dX9_init_225 rfl (by decide +kernel) (by decide +kernel) rfl ?_
  refine j_goto (pc := 228) (tgt := 121) X dX9_init_228 (by decide +kernel) ?_
  exact kk _ _ _
theorem m9_5 (X : Kx (gS g 10 3690) cI cS cX9_init RX9 wsX9_init 5 rm) (Yw : Kw (gS g 10 3690) (WM cI am) A) (kk : ∀ o2 o3 o4 : Option Value, J (gS g 10 3690) (WM cI am) 5 (m9s M (8 + 5) (FWt 5)) 121 [some (.ref (am 0)), some (.int (nI 6)), o2, o3, o4] []) : J (gS g 10 3690) (WM cI am) 5 M 121 [some (.ref (am 0)), some (.int (nI 5)), o2, o3, o4] [] := by
  refine j_iload_n (pc := 121) X dX9_init_121 rfl ?_
  refine j_bipush (pc := 122) (v := nI 26) X dX9_init_122 (by decide +kernel) ?_
  refine j_icmp_ge (pc := 124) (tgt := 231) X dX9_init_124 (by decide +kernel) (fun h => absurd h (by decide +kernel)) (fun _ => ?_)
  refine j_iload_n (pc := 127) X dX9_init_127 rfl ?_
  refine j_bipush (pc := 128) (v := nI 97) X dX9_init_128 (by decide +kernel) ?_
  refine j_iadd (pc := 130) X dX9_init_130 ?_
  rw [show nI 5 + nI 97 = nI 102 by decide +kernel]
  refine j_istore_n (pc := 131) X dX9_init_131 (by decide +kernel) rfl ?_
  refine j_iload_n (pc := 132) X dX9_init_132 rfl ?_
  refine j_bipush (pc := 133) (v := nI 105) X dX9_init_133 (by decide +kernel) ?_
  refine j_icmp_eq (pc := 135) (tgt := 150) X dX9_init_135 (by decide +kernel) (fun h => absurd h (by decide +kernel)) (fun _ => ?_)
  refine j_iload_n (pc := 138) X dX9_init_138 rfl ?_
  refine j_bipush (pc := 139) (v := nI 106) X dX9_init_139 (by decide +kernel) ?_
  refine j_icmp_eq (pc := 141) (tgt := 150) X dX9_init_141 (by decide +kernel) (fun h => absurd h (by decide +kernel)) (fun _ => ?_)
  refine j_iload_n (pc := 144) X dX9_init_144 rfl ?_
  refine j_bipush (pc := 145) (v := nI 108) X dX9_init_145 (by decide +kernel) ?_
  refine j_icmp_ne (pc := 147) (tgt := 154) X dX9_init_147 (by decide +kernel) (fun _ => ?_) (fun h => absurd h (by decide +kernel))
  refine j_iconst (pc := 154) (v := nI 0) X dX9_init_154 (by decide +kernel) ?_
  refine j_istore_n (pc := 155) X dX9_init_155 (by decide +kernel) rfl ?_
  refine j_iload_n (pc := 156) X dX9_init_156 rfl ?_
  refine j_bipush (pc := 157) (v := nI 102) X dX9_init_157 (by decide +kernel) ?_
  refine j_icmp_eq (pc := 159) (tgt := 174) X dX9_init_159 (by decide +kernel) (fun _ => ?_) (fun h => absurd (by decide +kernel) h)
  refine j_iconst (pc := 174) (v := nI 1) X dX9_init_174 (by decide +kernel) ?_
  refine j_goto (pc := 175) (tgt := 179) X dX9_init_175 (by decide +kernel) ?_
  refine j_istore (pc := 179) X dX9_init_179 (by decide +kernel) rfl ?_
  refine j_aload_n (pc := 181) X dX9_init_181 rfl ?_
  refine j_get (pc := 182) X iwi_X9_init_X9 wm0 rfl 0 (Nat.le_of_ble_eq_true rfl) lki_X9_7 (v := .ref (am 1)) rfl dX9_init_182 ?_
  refine j_bipush (pc := 185) (v := nI 8) X dX9_init_185 (by decide +kernel) ?_
  refine j_iload_n (pc := 187) X dX9_init_187 rfl ?_
  refine j_iadd (pc := 188) X dX9_init_188 ?_
  rw [show nI 8 + nI 5 = nI 13 by decide +kernel]
  refine j_iload_n (pc := 189) X dX9_init_189 rfl ?_
  refine j_if_eq (pc := 190) (tgt := 197) X dX9_init_190 (by decide +kernel) (fun _ => ?_) (fun h => absurd (by decide +kernel) h)
  refine j_iload (pc := 197) X dX9_init_197 rfl ?_
  refine j_if_eq (pc := 199) (tgt := 206) X dX9_init_199 (by decide +kernel) (fun h => absurd h (by decide +kernel)) (fun _ => ?_)
  refine j_iconst (pc := 202) (v := FWt 5) X dX9_init_202 (by decide +kernel) ?_
  refine j_goto (pc := 203) (tgt := 224) X dX9_init_203 (by decide +kernel) ?_
  refine j_iast (C' := m9s M (8 + 5) (FWt 5)) (pc := 224) X Yw wm1 (vp_in_nI (by decide +kernel) (by decide +kernel)) dX9_init_224 (by rw [nI_clamp (by decide +kernel)]; exact sm1 _) ?_
  refine j_iinc (pc := 225) (v := nI 6) X dX9_init_225 rfl (by decide +kernel) (by decide +kernel) rfl ?_
  refine j_goto (pc := 228) (tgt := 121) X dX9_init_228 (by decide +kernel) ?_
  exact kk _ _ _
theorem m9_6 (X : Kx (gS g 10 3690) cI cS cX9_init RX9 wsX9_init 5 rm) (Yw : Kw (gS g 10 3690) (WM cI am) A) (kk : ∀ o2 o3 o4 : Option Value, J (gS g 10 3690) (WM cI am) 5 (m9s M (8 + 6) (FWt 6)) 121 [some (.ref (am 0)), some (.int (nI 7)), o2, o3, o4] []) : J (gS g 10 3690) (WM cI am) 5 M 121 [some (.ref (am 0)), some (.int (nI 6)), o2, o3, o4] [] := by
  refine j_iload_n (pc := 121) X dX9_init_121 rfl ?_
  refine j_bipush (pc := 122) (v := nI 26) X dX9_init_122 (by decide +kernel) ?_
  refine j_icmp_ge (pc := 124) (tgt := 231) X dX9_init_124 (by decide +kernel) (fun h => absurd h (by decide +kernel)) (fun _ => ?_)
  refine j_iload_n (pc := 127) X dX9_init_127 rfl ?_
  refine j_bipush (pc := 128) (v := nI 97) X dX9_init_128 (by decide +kernel) ?_
  refine j_iadd (pc := 130) X dX9_init_130 ?_
  rw [show nI 6 + nI 97 = nI 103 by decide +kernel]
  refine j_istore_n (pc := 131) X dX9_init_131 (by decide +kernel) rfl ?_
  refine j_iload_n (pc := 132) X dX9_init_132 rfl ?_
  refine j_bipush (pc := 133) (v := nI 105) X dX9_init_133 (by decide +kernel) ?_
  refine j_icmp_eq (pc := 135) (tgt := 150) X dX9_init_135 (by decide +kernel) (fun h => absurd h (by decide +kernel)) (fun _ => ?_)
  refine j_iload_n (pc := 138) X dX9_init_138 rfl ?_
  refine j_bipush (pc := 139) (v := nI 106) X dX9_init_139 (by decide +kernel) ?_
  refine j_icmp_eq (pc := 141) (tgt := 150) X dX9_init_141 (by decide +kernel) (fun h => absurd h (by decide +kernel)) (fun _ => ?_)
  refine j_iload_n (pc := 144) X dX9_init_144 rfl ?_
  refine j_bipush (pc := 145) (v := nI 108) X dX9_init_145 (by decide +kernel) ?_
  refine j_icmp_ne (pc := 147) (tgt := 154) X dX9_init_147 (by decide +kernel) (fun _ => ?_) (fun h => absurd h (by decide +kernel))
  refine j_iconst (pc := 154) (v := nI 0) X dX9_init_154 (by decide +kernel) ?_
  refine j_istore_n (pc := 155) X dX9_init_155 (by decide +kernel) rfl ?_
  refine j_iload_n (pc := 156) X dX9_init_156 rfl ?_
  refine j_bipush (pc := 157) (v := nI 102) X dX9_init_157 (by decide +kernel) ?_
  refine j_icmp_eq (pc := 159) (tgt := 174) X dX9_init_159 (by decide +kernel) (fun h => absurd h (by decide +kernel)) (fun _ => ?_)
  refine j_iload_n (pc := 162) X dX9_init_162 rfl ?_
  refine j_bipush (pc := 163) (v := nI 114) X dX9_init_163 (by decide +kernel) ?_
  refine j_icmp_eq (pc := 165) (tgt := 174) X dX9_init_165 (by decide +kernel) (fun h => absurd h (by decide +kernel)) (fun _ => ?_)
  refine j_iload_n (pc := 168) X dX9_init_168 rfl ?_
  refine j_bipush (pc := 169) (v := nI 116) X dX9_init_169 (by decide +kernel) ?_
  refine j_icmp_ne (pc := 171) (tgt := 178) X dX9_init_171 (by decide +kernel) (fun _ => ?_) (fun h => absurd h (by decide +kernel))
  refine j_iconst (pc := 178) (v := nI 0) X dX9_init_178 (by decide +kernel) ?_
  refine j_istore (pc := 179) X dX9_init_179 (by decide +kernel) rfl ?_
  refine j_aload_n (pc := 181) X dX9_init_181 rfl ?_
  refine j_get (pc := 182) X iwi_X9_init_X9 wm0 rfl 0 (Nat.le_of_ble_eq_true rfl) lki_X9_7 (v := .ref (am 1)) rfl dX9_init_182 ?_
  refine j_bipush (pc := 185) (v := nI 8) X dX9_init_185 (by decide +kernel) ?_
  refine j_iload_n (pc := 187) X dX9_init_187 rfl ?_
  refine j_iadd (pc := 188) X dX9_init_188 ?_
  rw [show nI 8 + nI 6 = nI 14 by decide +kernel]
  refine j_iload_n (pc := 189) X dX9_init_189 rfl ?_
  refine j_if_eq (pc := 190) (tgt := 197) X dX9_init_190 (by decide +kernel) (fun _ => ?_) (fun h => absurd (by decide +kernel) h)
  refine j_iload (pc := 197) X dX9_init_197 rfl ?_
  refine j_if_eq (pc := 199) (tgt := 206) X dX9_init_199 (by decide +kernel) (fun _ => ?_) (fun h => absurd (by decide +kernel) h)
  refine j_iload_n (pc := 206) X dX9_init_206 rfl ?_
  refine j_bipush (pc := 207) (v := nI 109) X dX9_init_207 (by decide +kernel) ?_
  refine j_icmp_eq (pc := 209) (tgt := 218) X dX9_init_209 (by decide +kernel) (fun h => absurd h (by decide +kernel)) (fun _ => ?_)
  refine j_iload_n (pc := 212) X dX9_init_212 rfl ?_
  refine j_bipush (pc := 213) (v := nI 119) X dX9_init_213 (by decide +kernel) ?_
  refine j_icmp_ne (pc := 215) (tgt := 223) X dX9_init_215 (by decide +kernel) (fun _ => ?_) (fun h => absurd h (by decide +kernel))
  refine j_iconst (pc := 223) (v := FWt 6) X dX9_init_223 (by decide +kernel) ?_
  refine j_iast (C' := m9s M (8 + 6) (FWt 6)) (pc := 224) X Yw wm1 (vp_in_nI (by decide +kernel) (by decide +kernel)) dX9_init_224 (by rw [nI_clamp (by decide +kernel)]; exact sm1 _) ?_
  refine j_iinc (pc := 225) (v := nI 7) X dX9_init_225 rfl (by decide +kernel) (by decide +kernel) rfl ?_
  refine j_goto (pc := 228) (tgt := 121) X dX9_init_228 (by decide +kernel) ?_
  exact kk _ _ _
theorem m9_7 (X : Kx (gS g 10 3690) cI cS cX9_init RX9 wsX9_init 5 rm) (Yw : Kw (gS g 10 3690) (WM cI am) A) (kk : ∀ o2 o3 o4 : Option Value, J (gS g 10 3690) (WM cI am) 5 (m9s M (8 + 7) (FWt 7)) 121 [some (.ref (am 0)), some (.int (nI 8)), o2, o3, o4] []) : J (gS g 10 3690) (WM cI am) 5 M 121 [some (.ref (am 0)), some (.int (nI 7)), o2, o3, o4] [] := by
  refine j_iload_n (pc := 121) X dX9_init_121 rfl ?_
  refine j_bipush (pc := 122) (v := nI 26) X dX9_init_122 (by decide +kernel) ?_
  refine j_icmp_ge (pc := 124) (tgt := 231) X dX9_init_124 (by decide +kernel) (fun h => absurd h (by decide +kernel)) (fun _ => ?_)
  refine j_iload_n (pc := 127) X dX9_init_127 rfl ?_
  refine j_bipush (pc := 128) (v := nI 97) X dX9_init_128 (by decide +kernel) ?_
  refine j_iadd (pc := 130) X dX9_init_130 ?_
  rw [show nI 7 + nI 97 = nI 104 by decide +kernel]
  refine j_istore_n (pc := 131) X dX9_init_131 (by decide +kernel) rfl ?_
  refine j_iload_n (pc := 132) X dX9_init_132 rfl ?_
  refine j_bipush (pc := 133) (v := nI 105) X dX9_init_133 (by decide +kernel) ?_
  refine j_icmp_eq (pc := 135) (tgt := 150) X dX9_init_135 (by decide +kernel) (fun h => absurd h (by decide +kernel)) (fun _ => ?_)
  refine j_iload_n (pc := 138) X dX9_init_138 rfl ?_
  refine j_bipush (pc := 139) (v := nI 106) X dX9_init_139 (by decide +kernel) ?_
  refine j_icmp_eq (pc := 141) (tgt := 150) X dX9_init_141 (by decide +kernel) (fun h => absurd h (by decide +kernel)) (fun _ => ?_)
  refine j_iload_n (pc := 144) X dX9_init_144 rfl ?_
  refine j_bipush (pc := 145) (v := nI 108) X dX9_init_145 (by decide +kernel) ?_
  refine j_icmp_ne (pc := 147) (tgt := 154) X dX9_init_147 (by decide +kernel) (fun _ => ?_) (fun h => absurd h (by decide +kernel))
  refine j_iconst (pc := 154) (v := nI 0) X dX9_init_154 (by decide +kernel) ?_
  refine j_istore_n (pc := 155) X dX9_init_155 (by decide +kernel) rfl ?_
  refine j_iload_n (pc := 156) X dX9_init_156 rfl ?_
  refine j_bipush (pc := 157) (v := nI 102) X dX9_init_157 (by decide +kernel) ?_
  refine j_icmp_eq (pc := 159) (tgt := 174) X dX9_init_159 (by decide +kernel) (fun h => absurd h (by decide +kernel)) (fun _ => ?_)
  refine j_iload_n (pc := 162) X dX9_init_162 rfl ?_
  refine j_bipush (pc := 163) (v := nI 114) X dX9_init_163 (by decide +kernel) ?_
  refine j_icmp_eq (pc := 165) (tgt := 174) X dX9_init_165 (by decide +kernel) (fun h => absurd h (by decide +kernel)) (fun _ => ?_)
  refine j_iload_n (pc := 168) X dX9_init_168 rfl ?_
  refine j_bipush (pc := 169) (v := nI 116) X dX9_init_169 (by decide +kernel) ?_
  refine j_icmp_ne (pc := 171) (tgt := 178) X dX9_init_171 (by decide +kernel) (fun _ => ?_) (fun h => absurd h (by decide +kernel))
  refine j_iconst (pc := 178) (v := nI 0) X dX9_init_178 (by decide +kernel) ?_
  refine j_istore (pc := 179) X dX9_init_179 (by decide +kernel) rfl ?_
  refine j_aload_n (pc := 181) X dX9_init_181 rfl ?_
  refine j_get (pc := 182) X iwi_X9_init_X9 wm0 rfl 0 (Nat.le_of_ble_eq_true rfl) lki_X9_7 (v := .ref (am 1)) rfl dX9_init_182 ?_
  refine j_bipush (pc := 185) (v := nI 8) X dX9_init_185 (by decide +kernel) ?_
  refine j_iload_n (pc := 187) X dX9_init_187 rfl ?_
  refine j_iadd (pc := 188) X dX9_init_188 ?_
  rw [show nI 8 + nI 7 = nI 15 by decide +kernel]
  refine j_iload_n (pc := 189) X dX9_init_189 rfl ?_
  refine j_if_eq (pc := 190) (tgt := 197) X dX9_init_190 (by decide +kernel) (fun _ => ?_) (fun h => absurd (by decide +kernel) h)
  refine j_iload (pc := 197) X dX9_init_197 rfl ?_
  refine j_if_eq (pc := 199) (tgt := 206) X dX9_init_199 (by decide +kernel) (fun _ => ?_) (fun h => absurd (by decide +kernel) h)
  refine j_iload_n (pc := 206) X dX9_init_206 rfl ?_
  refine j_bipush (pc := 207) (v := nI 109) X dX9_init_207 (by decide +kernel) ?_
  refine j_icmp_eq (pc := 209) (tgt := 218) X dX9_init_209 (by decide +kernel) (fun h => absurd h (by decide +kernel)) (fun _ => ?_)
  refine j_iload_n (pc := 212) X dX9_init_212 rfl ?_
  refine j_bipush (pc := 213) (v := nI 119) X dX9_init_213 (by decide +kernel) ?_
  refine j_icmp_ne (pc := 215) (tgt := 223) X dX9_init_215 (by decide +kernel) (fun _ => ?_) (fun h => absurd h (by decide +kernel))
  refine j_iconst (pc := 223) (v := FWt 7) X dX9_init_223 (by decide +kernel) ?_
  refine j_iast (C' := m9s M (8 + 7) (FWt 7)) (pc := 224) X Yw wm1 (vp_in_nI (by decide +kernel) (by decide +kernel)) dX9_init_224 (by rw [nI_clamp (by decide +kernel)]; exact sm1 _) ?_
  refine j_iinc (pc := 225) (v := nI 8) X dX9_init_225 rfl (by decide +kernel) (by decide +kernel) rfl ?_
  refine j_goto (pc := 228) (tgt := 121) X dX9_init_228 (by decide +kernel) ?_
  exact kk _ _ _
theorem m9_8 (X : Kx (gS g 10 3690) cI cS cX9_init RX9 wsX9_init 5 rm) (Yw : Kw (gS g 10 3690) (WM cI am) A) (kk : ∀ o2 o3 o4 : Option Value, J (gS g 10 3690) (WM cI am) 5 (m9s M (8 + 8) (FWt 8)) 121 [some (.ref (am 0)), some (.int (nI 9)), o2, o3, o4] []) : J (gS g 10 3690) (WM cI am) 5 M 121 [some (.ref (am 0)), some (.int (nI 8)), o2, o3, o4] [] := by
  refine j_iload_n (pc := 121) X dX9_init_121 rfl ?_
  refine j_bipush (pc := 122) (v := nI 26) X dX9_init_122 (by decide +kernel) ?_
  refine j_icmp_ge (pc := 124) (tgt := 231) X dX9_init_124 (by decide +kernel) (fun h => absurd h (by decide +kernel)) (fun _ => ?_)
  refine j_iload_n (pc := 127) X dX9_init_127 rfl ?_
  refine j_bipush (pc := 128) (v := nI 97) X dX9_init_128 (by decide +kernel) ?_
  refine j_iadd (pc := 130) X dX9_init_130 ?_
  rw [show nI 8 + nI 97 = nI 105 by decide +kernel]
  refine j_istore_n (pc := 131) X dX9_init_131 (by decide +kernel) rfl ?_
  refine j_iload_n (pc := 132) X dX9_init_132 rfl ?_
  refine j_bipush (pc := 133) (v := nI 105) X dX9_init_133 (by decide +kernel) ?_
  refine j_icmp_eq (pc := 135) (tgt := 150) X dX9_init_135 (by decide +kernel) (fun _ => ?_) (fun h => absurd (by decide +kernel) h)
  refine j_iconst (pc := 150) (v := nI 1) X dX9_init_150 (by decide +kernel) ?_
  refine j_goto (pc := 151) (tgt := 155) X dX9_init_151 (by decide +kernel) ?_
  refine j_istore_n (pc := 155) X dX9_init_155 (by decide +kernel) rfl ?_
  refine j_iload_n (pc := 156) X dX9_init_156 rfl ?_
  refine j_bipush (pc := 157) (v := nI 102) X dX9_init_157 (by decide +kernel) ?_
  refine j_icmp_eq (pc := 159) (tgt := 174) X dX9_init_159 (by decide +kernel) (fun h => absurd h (by decide +kernel)) (fun _ => ?_)
  refine j_iload_n (pc := 162) X dX9_init_162 rfl ?_
  refine j_bipush (pc := 163) (v := nI 114) X dX9_init_163 (by decide +kernel) ?_
  refine j_icmp_eq (pc := 165) (tgt := 174) X dX9_init_165 (by decide +kernel) (fun h => absurd h (by decide +kernel)) (fun _ => ?_)
  refine j_iload_n (pc := 168) X dX9_init_168 rfl ?_
  refine j_bipush (pc := 169) (v := nI 116) X dX9_init_169 (by decide +kernel) ?_
  refine j_icmp_ne (pc := 171) (tgt := 178) X dX9_init_171 (by decide +kernel) (fun _ => ?_) (fun h => absurd h (by decide +kernel))
  refine j_iconst (pc := 178) (v := nI 0) X dX9_init_178 (by decide +kernel) ?_
  refine j_istore (pc := 179) X dX9_init_179 (by decide +kernel) rfl ?_
  refine j_aload_n (pc := 181) X dX9_init_181 rfl ?_
  refine j_get (pc := 182) X iwi_X9_init_X9 wm0 rfl 0 (Nat.le_of_ble_eq_true rfl) lki_X9_7 (v := .ref (am 1)) rfl dX9_init_182 ?_
  refine j_bipush (pc := 185) (v := nI 8) X dX9_init_185 (by decide +kernel) ?_
  refine j_iload_n (pc := 187) X dX9_init_187 rfl ?_
  refine j_iadd (pc := 188) X dX9_init_188 ?_
  rw [show nI 8 + nI 8 = nI 16 by decide +kernel]
  refine j_iload_n (pc := 189) X dX9_init_189 rfl ?_
  refine j_if_eq (pc := 190) (tgt := 197) X dX9_init_190 (by decide +kernel) (fun h => absurd h (by decide +kernel)) (fun _ => ?_)
  refine j_iconst (pc := 193) (v := FWt 8) X dX9_init_193 (by decide +kernel) ?_
  refine j_goto (pc := 194) (tgt := 224) X dX9_init_194 (by decide +kernel) ?_
  refine j_iast (C' := m9s M (8 + 8) (FWt 8)) (pc := 224) X Yw wm1 (vp_in_nI (by decide +kernel) (by decide +kernel)) dX9_init_224 (by rw [nI_clamp (by decide +kernel)]; exact sm1 _) ?_
  refine j_iinc (pc := 225) (v := nI 9) X dX9_init_225 rfl (by decide +kernel) (by decide +kernel) rfl ?_
  refine j_goto (pc := 228) (tgt := 121) X dX9_init_228 (by decide +kernel) ?_
  exact kk _ _ _
theorem m9_9 (X : Kx (gS g 10 3690) cI cS cX9_init RX9 wsX9_init 5 rm) (Yw : Kw (gS g 10 3690) (WM cI am) A) (kk : ∀ o2 o3 o4 : Option Value, J (gS g 10 3690) (WM cI am) 5 (m9s M (8 + 9) (FWt 9)) 121 [some (.ref (am 0)), some (.int (nI 10)), o2, o3, o4] []) : J (gS g 10 3690) (WM cI am) 5 M 121 [some (.ref (am 0)), some (.int (nI 9)), o2, o3, o4] [] := by
  refine j_iload_n (pc := 121) X dX9_init_121 rfl ?_
  refine j_bipush (pc := 122) (v := nI 26) X dX9_init_122 (by decide +kernel) ?_
  refine j_icmp_ge (pc := 124) (tgt := 231) X dX9_init_124 (by decide +kernel) (fun h => absurd h (by decide +kernel)) (fun _ => ?_)
  refine j_iload_n (pc := 127) X dX9_init_127 rfl ?_
  refine j_bipush (pc := 128) (v := nI 97) X dX9_init_128 (by decide +kernel) ?_
  refine j_iadd (pc := 130) X dX9_init_130 ?_
  rw [show nI 9 + nI 97 = nI 106 by decide +kernel]
  refine j_istore_n (pc := 131) X dX9_init_131 (by decide +kernel) rfl ?_
  refine j_iload_n (pc := 132) X dX9_init_132 rfl ?_
  refine j_bipush (pc := 133) (v := nI 105) X dX9_init_133 (by decide +kernel) ?_
  refine j_icmp_eq (pc := 135) (tgt := 150) X dX9_init_135 (by decide +kernel) (fun h => absurd h (by decide +kernel)) (fun _ => ?_)
  refine j_iload_n (pc := 138) X dX9_init_138 rfl ?_
  refine j_bipush (pc := 139) (v := nI 106) X dX9_init_139 (by decide +kernel) ?_
  refine j_icmp_eq (pc := 141) (tgt := 150) X dX9_init_141 (by decide +kernel) (fun _ => ?_) (fun h => absurd (by decide +kernel) h)
  refine j_iconst (pc := 150) (v := nI 1) X dX9_init_150 (by decide +kernel) ?_
  refine j_goto (pc := 151) (tgt := 155) X dX9_init_151 (by decide +kernel) ?_
  refine j_istore_n (pc := 155) X dX9_init_155 (by decide +kernel) rfl ?_
  refine j_iload_n (pc := 156) X dX9_init_156 rfl ?_
  refine j_bipush (pc := 157) (v := nI 102) X dX9_init_157 (by decide +kernel) ?_
  refine j_icmp_eq (pc := 159) (tgt := 174) X dX9_init_159 (by decide +kernel) (fun h => absurd h (by decide +kernel)) (fun _ => ?_)
  refine j_iload_n (pc := 162) X dX9_init_162 rfl ?_
  refine j_bipush (pc := 163) (v := nI 114) X dX9_init_163 (by decide +kernel) ?_
  refine j_icmp_eq (pc := 165) (tgt := 174) X dX9_init_165 (by decide +kernel) (fun h => absurd h (by decide +kernel)) (fun _ => ?_)
  refine j_iload_n (pc := 168) X dX9_init_168 rfl ?_
  refine j_bipush (pc := 169) (v := nI 116) X dX9_init_169 (by decide +kernel) ?_
  refine j_icmp_ne (pc := 171) (tgt := 178) X dX9_init_171 (by decide +kernel) (fun _ => ?_) (fun h => absurd h (by decide +kernel))
  refine j_iconst (pc := 178) (v := nI 0) X dX9_init_178 (by decide +kernel) ?_
  refine j_istore (pc := 179) X dX9_init_179 (by decide +kernel) rfl ?_
  refine j_aload_n (pc := 181) X dX9_init_181 rfl ?_
  refine j_get (pc := 182) X iwi_X9_init_X9 wm0 rfl 0 (Nat.le_of_ble_eq_true rfl) lki_X9_7 (v := .ref (am 1)) rfl dX9_init_182 ?_
  refine j_bipush (pc := 185) (v := nI 8) X dX9_init_185 (by decide +kernel) ?_
  refine j_iload_n (pc := 187) X dX9_init_187 rfl ?_
  refine j_iadd (pc := 188) X dX9_init_188 ?_
  rw [show nI 8 + nI 9 = nI 17 by decide +kernel]
  refine j_iload_n (pc := 189) X dX9_init_189 rfl ?_
  refine j_if_eq (pc := 190) (tgt := 197) X dX9_init_190 (by decide +kernel) (fun h => absurd h (by decide +kernel)) (fun _ => ?_)
  refine j_iconst (pc := 193) (v := FWt 9) X dX9_init_193 (by decide +kernel) ?_
  refine j_goto (pc := 194) (tgt := 224) X dX9_init_194 (by decide +kernel) ?_
  refine j_iast (C' := m9s M (8 + 9) (FWt 9)) (pc := 224) X Yw wm1 (vp_in_nI (by decide +kernel) (by decide +kernel)) dX9_init_224 (by rw [nI_clamp (by decide +kernel)]; exact sm1 _) ?_
  refine j_iinc (pc := 225) (v := nI 10) X dX9_init_225 rfl (by decide +kernel) (by decide +kernel) rfl ?_
  refine j_goto (pc := 228) (tgt := 121) X dX9_init_228 (by decide +kernel) ?_
  exact kk _ _ _
theorem m9_10 (X : Kx (gS g 10 3690) cI cS cX9_init RX9 wsX9_init 5 rm) (Yw : Kw (gS g 10 3690) (WM cI am) A) (kk : ∀ o2 o3 o4 : Option Value, J (gS g 10 3690) (WM cI am) 5 (m9s M (8 + 10) (FWt 10)) 121 [some (.ref (am 0)), some (.int (nI 11)), o2, o3, o4] []) : J (gS g 10 3690) (WM cI am) 5 M 121 [some (.ref (am 0)), some (.int (nI 10)), o2, o3, o4] [] := by
  refine j_iload_n (pc := 121) X dX9_init_121 rfl ?_
  refine j_bipush (pc := 122) (v := nI 26) X dX9_init_122 (by decide +kernel) ?_
  refine j_icmp_ge (pc := 124) (tgt := 231) X dX9_init_124 (by decide +kernel) (fun h => absurd h (by decide +kernel)) (fun _ => ?_)
  refine j_iload_n (pc := 127) X dX9_init_127 rfl ?_
  refine j_bipush (pc := 128) (v := nI 97) X dX9_init_128 (by decide +kernel) ?_
  refine j_iadd (pc := 130) X dX9_init_130 ?_
  rw [show nI 10 + nI 97 = nI 107 by decide +kernel]
  refine j_istore_n (pc := 131) X dX9_init_131 (by decide +kernel) rfl ?_
  refine j_iload_n (pc := 132) X dX9_init_132 rfl ?_
  refine j_bipush (pc := 133) (v := nI 105) X dX9_init_133 (by decide +kernel) ?_
  refine j_icmp_eq (pc := 135) (tgt := 150) X dX9_init_135 (by decide +kernel) (fun h => absurd h (by decide +kernel)) (fun _ => ?_)
  refine j_iload_n (pc := 138) X dX9_init_138 rfl ?_
  refine j_bipush (pc := 139) (v := nI 106) X dX9_init_139 (by decide +kernel) ?_
  refine j_icmp_eq (pc := 141) (tgt := 150) X dX9_init_141 (by decide +kernel) (fun h => absurd h (by decide +kernel)) (fun _ => ?_)
  refine j_iload_n (pc := 144) X dX9_init_144 rfl ?_
  refine j_bipush (pc := 145) (v := nI 108) X dX9_init_145 (by decide +kernel) ?_
  refine j_icmp_ne (pc := 147) (tgt := 154) X dX9_init_147 (by decide +kernel) (fun _ => ?_) (fun h => absurd h (by decide +kernel))
  refine j_iconst (pc := 154) (v := nI 0) X dX9_init_154 (by decide +kernel) ?_
  refine j_istore_n (pc := 155) X dX9_init_155 (by decide +kernel) rfl ?_
  refine j_iload_n (pc := 156) X dX9_init_156 rfl ?_
  refine j_bipush (pc := 157) (v := nI 102) X dX9_init_157 (by decide +kernel) ?_
  refine j_icmp_eq (pc := 159) (tgt := 174) X dX9_init_159 (by decide +kernel) (fun h => absurd h (by decide +kernel)) (fun _ => ?_)
  refine j_iload_n (pc := 162) X dX9_init_162 rfl ?_
  refine j_bipush (pc := 163) (v := nI 114) X dX9_init_163 (by decide +kernel) ?_
  refine j_icmp_eq (pc := 165) (tgt := 174) X dX9_init_165 (by decide +kernel) (fun h => absurd h (by decide +kernel)) (fun _ => ?_)
  refine j_iload_n (pc := 168) X dX9_init_168 rfl ?_
  refine j_bipush (pc := 169) (v := nI 116) X dX9_init_169 (by decide +kernel) ?_
  refine j_icmp_ne (pc := 171) (tgt := 178) X dX9_init_171 (by decide +kernel) (fun _ => ?_) (fun h => absurd h (by decide +kernel))
  refine j_iconst (pc := 178) (v := nI 0) X dX9_init_178 (by decide +kernel) ?_
  refine j_istore (pc := 179) X dX9_init_179 (by decide +kernel) rfl ?_
  refine j_aload_n (pc := 181) X dX9_init_181 rfl ?_
  refine j_get (pc := 182) X iwi_X9_init_X9 wm0 rfl 0 (Nat.le_of_ble_eq_true rfl) lki_X9_7 (v := .ref (am 1)) rfl dX9_init_182 ?_
  refine j_bipush (pc := 185) (v := nI 8) X dX9_init_185 (by decide +kernel) ?_
  refine j_iload_n (pc := 187) X dX9_init_187 rfl ?_
  refine j_iadd (pc := 188) X dX9_init_188 ?_
  rw [show nI 8 + nI 10 = nI 18 by decide +kernel]
  refine j_iload_n (pc := 189) X dX9_init_189 rfl ?_
  refine j_if_eq (pc := 190) (tgt := 197) X dX9_init_190 (by decide +kernel) (fun _ => ?_) (fun h => absurd (by decide +kernel) h)
  refine j_iload (pc := 197) X dX9_init_197 rfl ?_
  refine j_if_eq (pc := 199) (tgt := 206) X dX9_init_199 (by decide +kernel) (fun _ => ?_) (fun h => absurd (by decide +kernel) h)
  refine j_iload_n (pc := 206) X dX9_init_206 rfl ?_
  refine j_bipush (pc := 207) (v := nI 109) X dX9_init_207 (by decide +kernel) ?_
  refine j_icmp_eq (pc := 209) (tgt := 218) X dX9_init_209 (by decide +kernel) (fun h => absurd h (by decide +kernel)) (fun _ => ?_)
  refine j_iload_n (pc := 212) X dX9_init_212 rfl ?_
  refine j_bipush (pc := 213) (v := nI 119) X dX9_init_213 (by decide +kernel) ?_
  refine j_icmp_ne (pc := 215) (tgt := 223) X dX9_init_215 (by decide +kernel) (fun _ => ?_) (fun h => absurd h (by decide +kernel))
  refine j_iconst (pc := 223) (v := FWt 10) X dX9_init_223 (by decide +kernel) ?_
  refine j_iast (C' := m9s M (8 + 10) (FWt 10)) (pc := 224) X Yw wm1 (vp_in_nI (by decide +kernel) (by decide +kernel)) dX9_init_224 (by rw [nI_clamp (by decide +kernel)]; exact sm1 _) ?_
  refine j_iinc (pc := 225) (v := nI 11) X dX9_init_225 rfl (by decide +kernel) (by decide +kernel) rfl ?_
  refine j_goto (pc := 228) (tgt := 121) X dX9_init_228 (by decide +kernel) ?_
  exact kk _ _ _
theorem m9_11 (X : Kx (gS g 10 3690) cI cS cX9_init RX9 wsX9_init 5 rm) (Yw : Kw (gS g 10 3690) (WM cI am) A) (kk : ∀ o2 o3 o4 : Option Value, J (gS g 10 3690) (WM cI am) 5 (m9s M (8 + 11) (FWt 11)) 121 [some (.ref (am 0)), some (.int (nI 12)), o2, o3, o4] []) : J (gS g 10 3690) (WM cI am) 5 M 121 [some (.ref (am 0)), some (.int (nI 11)), o2, o3, o4] [] := by
  refine j_iload_n (pc := 121) X dX9_init_121 rfl ?_
  refine j_bipush (pc := 122) (v := nI 26) X dX9_init_122 (by decide +kernel) ?_
  refine j_icmp_ge (pc := 124) (tgt := 231) X dX9_init_124 (by decide +kernel) (fun h => absurd h (by decide +kernel)) (fun _ => ?_)
  refine j_iload_n (pc := 127) X dX9_init_127 rfl ?_
  refine j_bipush (pc := 128) (v := nI 97) X dX9_init_128 (by decide +kernel) ?_
  refine j_iadd (pc := 130) X dX9_init_130 ?_
  rw [show nI 11 + nI 97 = nI 108 by decide +kernel]
  refine j_istore_n (pc := 131) X dX9_init_131 (by decide +kernel) rfl ?_
  refine j_iload_n (pc := 132) X dX9_init_132 rfl ?_
  refine j_bipush (pc := 133) (v := nI 105) X dX9_init_133 (by decide +kernel) ?_
  refine j_icmp_eq (pc := 135) (tgt := 150) X dX9_init_135 (by decide +kernel) (fun h => absurd h (by decide +kernel)) (fun _ => ?_)
  refine j_iload_n (pc := 138) X dX9_init_138 rfl ?_
  refine j_bipush (pc := 139) (v := nI 106) X dX9_init_139 (by decide +kernel) ?_
  refine j_icmp_eq (pc := 141) (tgt := 150) X dX9_init_141 (by decide +kernel) (fun h => absurd h (by decide +kernel)) (fun _ => ?_)
  refine j_iload_n (pc := 144) X dX9_init_144 rfl ?_
  refine j_bipush (pc := 145) (v := nI 108) X dX9_init_145 (by decide +kernel) ?_
  refine j_icmp_ne (pc := 147) (tgt := 154) X dX9_init_147 (by decide +kernel) (fun h => absurd (by decide +kernel) h) (fun _ => ?_)
  refine j_iconst (pc := 150) (v := nI 1) X dX9_init_150 (by decide +kernel) ?_
  refine j_goto (pc := 151) (tgt := 155) X dX9_init_151 (by decide +kernel) ?_
  refine j_istore_n (pc := 155) X dX9_init_155 (by decide +kernel) rfl ?_
  refine j_iload_n (pc := 156) X dX9_init_156 rfl ?_
  refine j_bipush (pc := 157) (v := nI 102) X dX9_init_157 (by decide +kernel) ?_
  refine j_icmp_eq (pc := 159) (tgt := 174) X dX9_init_159 (by decide +kernel) (fun h => absurd h (by decide +kernel)) (fun _ => ?_)
  refine j_iload_n (pc := 162) X dX9_init_162 rfl ?_
  refine j_bipush (pc := 163) (v := nI 114) X dX9_init_163 (by decide +kernel) ?_
  refine j_icmp_eq (pc := 165) (tgt := 174) X dX9_init_165 (by decide +kernel) (fun h => absurd h (by decide +kernel)) (fun _ => ?_)
  refine j_iload_n (pc := 168) X dX9_init_168 rfl ?_
  refine j_bipush (pc := 169) (v := nI 116) X dX9_init_169 (by decide +kernel) ?_
  refine j_icmp_ne (pc := 171) (tgt := 178) X dX9_init_171 (by decide +kernel) (fun _ => ?_) (fun h => absurd h (by decide +kernel))
  refine j_iconst (pc := 178) (v := nI 0) X dX9_init_178 (by decide +kernel) ?_
  refine j_istore (pc := 179) X dX9_init_179 (by decide +kernel) rfl ?_
  refine j_aload_n (pc := 181) X dX9_init_181 rfl ?_
  refine j_get (pc := 182) X iwi_X9_init_X9 wm0 rfl 0 (Nat.le_of_ble_eq_true rfl) lki_X9_7 (v := .ref (am 1)) rfl dX9_init_182 ?_
  refine j_bipush (pc := 185) (v := nI 8) X dX9_init_185 (by decide +kernel) ?_
  refine j_iload_n (pc := 187) X dX9_init_187 rfl ?_
  refine j_iadd (pc := 188) X dX9_init_188 ?_
  rw [show nI 8 + nI 11 = nI 19 by decide +kernel]
  refine j_iload_n (pc := 189) X dX9_init_189 rfl ?_
  refine j_if_eq (pc := 190) (tgt := 197) X dX9_init_190 (by decide +kernel) (fun h => absurd h (by decide +kernel)) (fun _ => ?_)
  refine j_iconst (pc := 193) (v := FWt 11) X dX9_init_193 (by decide +kernel) ?_
  refine j_goto (pc := 194) (tgt := 224) X dX9_init_194 (by decide +kernel) ?_
  refine j_iast (C' := m9s M (8 + 11) (FWt 11)) (pc := 224) X Yw wm1 (vp_in_nI (by decide +kernel) (by decide +kernel)) dX9_init_224 (by rw [nI_clamp (by decide +kernel)]; exact sm1 _) ?_
  refine j_iinc (pc := 225) (v := nI 12) X dX9_init_225 rfl (by decide +kernel) (by decide +kernel) rfl ?_
  refine j_goto (pc := 228) (tgt := 121) X dX9_init_228 (by decide +kernel) ?_
  exact kk _ _ _
theorem m9_12 (X : Kx (gS g 10 3690) cI cS cX9_init RX9 wsX9_init 5 rm) (Yw : Kw (gS g 10 3690) (WM cI am) A) (kk : ∀ o2 o3 o4 : Option Value, J (gS g 10 3690) (WM cI am) 5 (m9s M (8 + 12) (FWt 12)) 121 [some (.ref (am 0)), some (.int (nI 13)), o2, o3, o4] []) : J (gS g 10 3690) (WM cI am) 5 M 121 [some (.ref (am 0)), some (.int (nI 12)), o2, o3, o4] [] := by
  refine j_iload_n (pc := 121) X dX9_init_121 rfl ?_
  refine j_bipush (pc := 122) (v := nI 26) X dX9_init_122 (by decide +kernel) ?_
  refine j_icmp_ge (pc := 124) (tgt := 231) X dX9_init_124 (by decide +kernel) (fun h => absurd h (by decide +kernel)) (fun _ => ?_)
  refine j_iload_n (pc := 127) X dX9_init_127 rfl ?_
  refine j_bipush (pc := 128) (v := nI 97) X dX9_init_128 (by decide +kernel) ?_
  refine j_iadd (pc := 130) X dX9_init_130 ?_
  rw [show nI 12 + nI 97 = nI 109 by decide +kernel]
  refine j_istore_n (pc := 131) X dX9_init_131 (by decide +kernel) rfl ?_
  refine j_iload_n (pc := 132) X dX9_init_132 rfl ?_
  refine j_bipush (pc := 133) (v := nI 105) X dX9_init_133 (by decide +kernel) ?_
  refine j_icmp_eq (pc := 135) (tgt := 150) X dX9_init_135 (by decide +kernel) (fun h => absurd h (by decide +kernel)) (fun _ => ?_)
  refine j_iload_n (pc := 138) X dX9_init_138 rfl ?_
  refine j_bipush (pc := 139) (v := nI 106) X dX9_init_139 (by decide +kernel) ?_
  refine j_icmp_eq (pc := 141) (tgt := 150) X dX9_init_141 (by decide +kernel) (fun h => absurd h (by decide +kernel)) (fun _ => ?_)
  refine j_iload_n (pc := 144) X dX9_init_144 rfl ?_
  refine j_bipush (pc := 145) (v := nI 108) X dX9_init_145 (by decide +kernel) ?_
  refine j_icmp_ne (pc := 147) (tgt := 154) X dX9_init_147 (by decide +kernel) (fun _ => ?_) (fun h => absurd h (by decide +kernel))
  refine j_iconst (pc := 154) (v := nI 0) X dX9_init_154 (by decide +kernel) ?_
  refine j_istore_n (pc := 155) X dX9_init_155 (by decide +kernel) rfl ?_
  refine j_iload_n (pc := 156) X dX9_init_156 rfl ?_
  refine j_bipush (pc := 157) (v := nI 102) X dX9_init_157 (by decide +kernel) ?_
  refine j_icmp_eq (pc := 159) (tgt := 174) X dX9_init_159 (by decide +kernel) (fun h => absurd h (by decide +kernel)) (fun _ => ?_)
  refine j_iload_n (pc := 162) X dX9_init_162 rfl ?_
  refine j_bipush (pc := 163) (v := nI 114) X dX9_init_163 (by decide +kernel) ?_
  refine j_icmp_eq (pc := 165) (tgt := 174) X dX9_init_165 (by decide +kernel) (fun h => absurd h (by decide +kernel)) (fun _ => ?_)
  refine j_iload_n (pc := 168) X dX9_init_168 rfl ?_
  refine j_bipush (pc := 169) (v := nI 116) X dX9_init_169 (by decide +kernel) ?_
  refine j_icmp_ne (pc := 171) (tgt := 178) X dX9_init_171 (by decide +kernel) (fun _ => ?_) (fun h => absurd h (by decide +kernel))
  refine j_iconst (pc := 178) (v := nI 0) X dX9_init_178 (by decide +kernel) ?_
  refine j_istore (pc := 179) X dX9_init_179 (by decide +kernel) rfl ?_
  refine j_aload_n (pc := 181) X dX9_init_181 rfl ?_
  refine j_get (pc := 182) X iwi_X9_init_X9 wm0 rfl 0 (Nat.le_of_ble_eq_true rfl) lki_X9_7 (v := .ref (am 1)) rfl dX9_init_182 ?_
  refine j_bipush (pc := 185) (v := nI 8) X dX9_init_185 (by decide +kernel) ?_
  refine j_iload_n (pc := 187) X dX9_init_187 rfl ?_
  refine j_iadd (pc := 188) X dX9_init_188 ?_
  rw [show nI 8 + nI 12 = nI 20 by decide +kernel]
  refine j_iload_n (pc := 189) X dX9_init_189 rfl ?_
  refine j_if_eq (pc := 190) (tgt := 197) X dX9_init_190 (by decide +kernel) (fun _ => ?_) (fun h => absurd (by decide +kernel) h)
  refine j_iload (pc := 197) X dX9_init_197 rfl ?_
  refine j_if_eq (pc := 199) (tgt := 206) X dX9_init_199 (by decide +kernel) (fun _ => ?_) (fun h => absurd (by decide +kernel) h)
  refine j_iload_n (pc := 206) X dX9_init_206 rfl ?_
  refine j_bipush (pc := 207) (v := nI 109) X dX9_init_207 (by decide +kernel) ?_
  refine j_icmp_eq (pc := 209) (tgt := 218) X dX9_init_209 (by decide +kernel) (fun _ => ?_) (fun h => absurd (by decide +kernel) h)
  refine j_bipush (pc := 218) (v := FWt 12) X dX9_init_218 (by decide +kernel) ?_
  refine j_goto (pc := 220) (tgt := 224) X dX9_init_220 (by decide +kernel) ?_
  refine j_iast (C' := m9s M (8 + 12) (FWt 12)) (pc := 224) X Yw wm1 (vp_in_nI (by decide +kernel) (by decide +kernel)) dX9_init_224 (by rw [nI_clamp (by decide +kernel)]; exact sm1 _) ?_
  refine j_iinc (pc := 225) (v := nI 13) X dX9_init_225 rfl (by decide +kernel) (by decide +kernel) rfl ?_
  refine j_goto (pc := 228) (tgt := 121) X dX9_init_228 (by decide +kernel) ?_
  exact kk _ _ _
theorem m9_13 (X : Kx (gS g 10 3690) cI cS cX9_init RX9 wsX9_init 5 rm) (Yw : Kw (gS g 10 3690) (WM cI am) A) (kk : ∀ o2 o3 o4 : Option Value, J (gS g 10 3690) (WM cI am) 5 (m9s M (8 + 13) (FWt 13)) 121 [some (.ref (am 0)), some (.int (nI 14)), o2, o3, o4] []) : J (gS g 10 3690) (WM cI am) 5 M 121 [some (.ref (am 0)), some (.int (nI 13)), o2, o3, o4] [] := by
  refine j_iload_n (pc := 121) X dX9_init_121 rfl ?_
  refine j_bipush (pc := 122) (v := nI 26) X dX9_init_122 (by decide +kernel) ?_
  refine j_icmp_ge (pc := 124) (tgt := 231) X dX9_init_124 (by decide +kernel) (fun h => absurd h (by decide +kernel)) (fun _ => ?_)
  refine j_iload_n (pc := 127) X dX9_init_127 rfl ?_
  refine j_bipush (pc := 128) (v := nI 97) X dX9_init_128 (by decide +kernel) ?_
  refine j_iadd (pc := 130) X dX9_init_130 ?_
  rw [show nI 13 + nI 97 = nI 110 by decide +kernel]
  refine j_istore_n (pc := 131) X dX9_init_131 (by decide +kernel) rfl ?_
  refine j_iload_n (pc := 132) X dX9_init_132 rfl ?_
  refine j_bipush (pc := 133) (v := nI 105) X dX9_init_133 (by decide +kernel) ?_
  refine j_icmp_eq (pc := 135) (tgt := 150) X dX9_init_135 (by decide +kernel) (fun h => absurd h (by decide +kernel)) (fun _ => ?_)
  refine j_iload_n (pc := 138) X dX9_init_138 rfl ?_
  refine j_bipush (pc := 139) (v := nI 106) X dX9_init_139 (by decide +kernel) ?_
  refine j_icmp_eq (pc := 141) (tgt := 150) X dX9_init_141 (by decide +kernel) (fun h => absurd h (by decide +kernel)) (fun _ => ?_)
  refine j_iload_n (pc := 144) X dX9_init_144 rfl ?_
  refine j_bipush (pc := 145) (v := nI 108) X dX9_init_145 (by decide +kernel) ?_
  refine j_icmp_ne (pc := 147) (tgt := 154) X dX9_init_147 (by decide +kernel) (fun _ => ?_) (fun h => absurd h (by decide +kernel))
  refine j_iconst (pc := 154) (v := nI 0) X dX9_init_154 (by decide +kernel) ?_
  refine j_istore_n (pc := 155) X dX9_init_155 (by decide +kernel) rfl ?_
  refine j_iload_n (pc := 156) X dX9_init_156 rfl ?_
  refine j_bipush (pc := 157) (v := nI 102) X dX9_init_157 (by decide +kernel) ?_
  refine j_icmp_eq (pc := 159) (tgt := 174) X dX9_init_159 (by decide +kernel) (fun h => absurd h (by decide +kernel)) (fun _ => ?_)
  refine j_iload_n (pc := 162) X dX9_init_162 rfl ?_
  refine j_bipush (pc := 163) (v := nI 114) X dX9_init_163 (by decide +kernel) ?_
  refine j_icmp_eq (pc := 165) (tgt := 174) X dX9_init_165 (by decide +kernel) (fun h => absurd h (by decide +kernel)) (fun _ => ?_)
  refine j_iload_n (pc := 168) X dX9_init_168 rfl ?_
  refine j_bipush (pc := 169) (v := nI 116) X dX9_init_169 (by decide +kernel) ?_
  refine j_icmp_ne (pc := 171) (tgt := 178) X dX9_init_171 (by decide +kernel) (fun _ => ?_) (fun h => absurd h (by decide +kernel))
  refine j_iconst (pc := 178) (v := nI 0) X dX9_init_178 (by decide +kernel) ?_
  refine j_istore (pc := 179) X dX9_init_179 (by decide +kernel) rfl ?_
  refine j_aload_n (pc := 181) X dX9_init_181 rfl ?_
  refine j_get (pc := 182) X iwi_X9_init_X9 wm0 rfl 0 (Nat.le_of_ble_eq_true rfl) lki_X9_7 (v := .ref (am 1)) rfl dX9_init_182 ?_
  refine j_bipush (pc := 185) (v := nI 8) X dX9_init_185 (by decide +kernel) ?_
  refine j_iload_n (pc := 187) X dX9_init_187 rfl ?_
  refine j_iadd (pc := 188) X dX9_init_188 ?_
  rw [show nI 8 + nI 13 = nI 21 by decide +kernel]
  refine j_iload_n (pc := 189) X dX9_init_189 rfl ?_
  refine j_if_eq (pc := 190) (tgt := 197) X dX9_init_190 (by decide +kernel) (fun _ => ?_) (fun h => absurd (by decide +kernel) h)
  refine j_iload (pc := 197) X dX9_init_197 rfl ?_
  refine j_if_eq (pc := 199) (tgt := 206) X dX9_init_199 (by decide +kernel) (fun _ => ?_) (fun h => absurd (by decide +kernel) h)
  refine j_iload_n (pc := 206) X dX9_init_206 rfl ?_
  refine j_bipush (pc := 207) (v := nI 109) X dX9_init_207 (by decide +kernel) ?_
  refine j_icmp_eq (pc := 209) (tgt := 218) X dX9_init_209 (by decide +kernel) (fun h => absurd h (by decide +kernel)) (fun _ => ?_)
  refine j_iload_n (pc := 212) X dX9_init_212 rfl ?_
  refine j_bipush (pc := 213) (v := nI 119) X dX9_init_213 (by decide +kernel) ?_
  refine j_icmp_ne (pc := 215) (tgt := 223) X dX9_init_215 (by decide +kernel) (fun _ => ?_) (fun h => absurd h (by decide +kernel))
  refine j_iconst (pc := 223) (v := FWt 13) X dX9_init_223 (by decide +kernel) ?_
  refine j_iast (C' := m9s M (8 + 13) (FWt 13)) (pc := 224) X Yw wm1 (vp_in_nI (by decide +kernel) (by decide +kernel)) dX9_init_224 (by rw [nI_clamp (by decide +kernel)]; exact sm1 _) ?_
  refine j_iinc (pc := 225) (v := nI 14) X dX9_init_225 rfl (by decide +kernel) (by decide +kernel) rfl ?_
  refine j_goto (pc := 228) (tgt := 121) X dX9_init_228 (by decide +kernel) ?_
  exact kk _ _ _
theorem m9_14 (X : Kx (gS g 10 3690) cI cS cX9_init RX9 wsX9_init 5 rm) (Yw : Kw (gS g 10 3690) (WM cI am) A) (kk : ∀ o2 o3 o4 : Option Value, J (gS g 10 3690) (WM cI am) 5 (m9s M (8 + 14) (FWt 14)) 121 [some (.ref (am 0)), some (.int (nI 15)), o2, o3, o4] []) : J (gS g 10 3690) (WM cI am) 5 M 121 [some (.ref (am 0)), some (.int (nI 14)), o2, o3, o4] [] := by
  refine j_iload_n (pc := 121) X dX9_init_121 rfl ?_
  refine j_bipush (pc := 122) (v := nI 26) X dX9_init_122 (by decide +kernel) ?_
  refine j_icmp_ge (pc := 124) (tgt := 231) X dX9_init_124 (by decide +kernel) (fun h => absurd h (by decide +kernel)) (fun _ => ?_)
  refine j_iload_n (pc := 127) X dX9_init_127 rfl ?_
  refine j_bipush (pc := 128) (v := nI 97) X dX9_init_128 (by decide +kernel) ?_
  refine j_iadd (pc := 130) X dX9_init_130 ?_
  rw [show nI 14 + nI 97 = nI 111 by decide +kernel]
  refine j_istore_n (pc := 131) X dX9_init_131 (by decide +kernel) rfl ?_
  refine j_iload_n (pc := 132) X dX9_init_132 rfl ?_
  refine j_bipush (pc := 133) (v := nI 105) X dX9_init_133 (by decide +kernel) ?_
  refine j_icmp_eq (pc := 135) (tgt := 150) X dX9_init_135 (by decide +kernel) (fun h => absurd h (by decide +kernel)) (fun _ => ?_)
  refine j_iload_n (pc := 138) X dX9_init_138 rfl ?_
  refine j_bipush (pc := 139) (v := nI 106) X dX9_init_139 (by decide +kernel) ?_
  refine j_icmp_eq (pc := 141) (tgt := 150) X dX9_init_141 (by decide +kernel) (fun h => absurd h (by decide +kernel)) (fun _ => ?_)
  refine j_iload_n (pc := 144) X dX9_init_144 rfl ?_
  refine j_bipush (pc := 145) (v := nI 108) X dX9_init_145 (by decide +kernel) ?_
  refine j_icmp_ne (pc := 147) (tgt := 154) X dX9_init_147 (by decide +kernel) (fun _ => ?_) (fun h => absurd h (by decide +kernel))
  refine j_iconst (pc := 154) (v := nI 0) X dX9_init_154 (by decide +kernel) ?_
  refine j_istore_n (pc := 155) X dX9_init_155 (by decide +kernel) rfl ?_
  refine j_iload_n (pc := 156) X dX9_init_156 rfl ?_
  refine j_bipush (pc := 157) (v := nI 102) X dX9_init_157 (by decide +kernel) ?_
  refine j_icmp_eq (pc := 159) (tgt := 174) X dX9_init_159 (by decide +kernel) (fun h => absurd h (by decide +kernel)) (fun _ => ?_)
  refine j_iload_n (pc := 162) X dX9_init_162 rfl ?_
  refine j_bipush (pc := 163) (v := nI 114) X dX9_init_163 (by decide +kernel) ?_
  refine j_icmp_eq (pc := 165) (tgt := 174) X dX9_init_165 (by decide +kernel) (fun h => absurd h (by decide +kernel)) (fun _ => ?_)
  refine j_iload_n (pc := 168) X dX9_init_168 rfl ?_
  refine j_bipush (pc := 169) (v := nI 116) X dX9_init_169 (by decide +kernel) ?_
  refine j_icmp_ne (pc := 171) (tgt := 178) X dX9_init_171 (by decide +kernel) (fun _ => ?_) (fun h => absurd h (by decide +kernel))
  refine j_iconst (pc := 178) (v := nI 0) X dX9_init_178 (by decide +kernel) ?_
  refine j_istore (pc := 179) X dX9_init_179 (by decide +kernel) rfl ?_
  refine j_aload_n (pc := 181) X dX9_init_181 rfl ?_
  refine j_get (pc := 182) X iwi_X9_init_X9 wm0 rfl 0 (Nat.le_of_ble_eq_true rfl) lki_X9_7 (v := .ref (am 1)) rfl dX9_init_182 ?_
  refine j_bipush (pc := 185) (v := nI 8) X dX9_init_185 (by decide +kernel) ?_
  refine j_iload_n (pc := 187) X dX9_init_187 rfl ?_
  refine j_iadd (pc := 188) X dX9_init_188 ?_
  rw [show nI 8 + nI 14 = nI 22 by decide +kernel]
  refine j_iload_n (pc := 189) X dX9_init_189 rfl ?_
  refine j_if_eq (pc := 190) (tgt := 197) X dX9_init_190 (by decide +kernel) (fun _ => ?_) (fun h => absurd (by decide +kernel) h)
  refine j_iload (pc := 197) X dX9_init_197 rfl ?_
  refine j_if_eq (pc := 199) (tgt := 206) X dX9_init_199 (by decide +kernel) (fun _ => ?_) (fun h => absurd (by decide +kernel) h)
  refine j_iload_n (pc := 206) X dX9_init_206 rfl ?_
  refine j_bipush (pc := 207) (v := nI 109) X dX9_init_207 (by decide +kernel) ?_
  refine j_icmp_eq (pc := 209) (tgt := 218) X dX9_init_209 (by decide +kernel) (fun h => absurd h (by decide +kernel)) (fun _ => ?_)
  refine j_iload_n (pc := 212) X dX9_init_212 rfl ?_
  refine j_bipush (pc := 213) (v := nI 119) X dX9_init_213 (by decide +kernel) ?_
  refine j_icmp_ne (pc := 215) (tgt := 223) X dX9_init_215 (by decide +kernel) (fun _ => ?_) (fun h => absurd h (by decide +kernel))
  refine j_iconst (pc := 223) (v := FWt 14) X dX9_init_223 (by decide +kernel) ?_
  refine j_iast (C' := m9s M (8 + 14) (FWt 14)) (pc := 224) X Yw wm1 (vp_in_nI (by decide +kernel) (by decide +kernel)) dX9_init_224 (by rw [nI_clamp (by decide +kernel)]; exact sm1 _) ?_
  refine j_iinc (pc := 225) (v := nI 15) X dX9_init_225 rfl (by decide +kernel) (by decide +kernel) rfl ?_
  refine j_goto (pc := 228) (tgt := 121) X dX9_init_228 (by decide +kernel) ?_
  exact kk _ _ _
theorem m9_15 (X : Kx (gS g 10 3690) cI cS cX9_init RX9 wsX9_init 5 rm) (Yw : Kw (gS g 10 3690) (WM cI am) A) (kk : ∀ o2 o3 o4 : Option Value, J (gS g 10 3690) (WM cI am) 5 (m9s M (8 + 15) (FWt 15)) 121 [some (.ref (am 0)), some (.int (nI 16)), o2, o3, o4] []) : J (gS g 10 3690) (WM cI am) 5 M 121 [some (.ref (am 0)), some (.int (nI 15)), o2, o3, o4] [] := by
  refine j_iload_n (pc := 121) X dX9_init_121 rfl ?_
  refine j_bipush (pc := 122) (v := nI 26) X dX9_init_122 (by decide +kernel) ?_
  refine j_icmp_ge (pc := 124) (tgt := 231) X dX9_init_124 (by decide +kernel) (fun h => absurd h (by decide +kernel)) (fun _ => ?_)
  refine j_iload_n (pc := 127) X dX9_init_127 rfl ?_
  refine j_bipush (pc := 128) (v := nI 97) X dX9_init_128 (by decide +kernel) ?_
  refine j_iadd (pc := 130) X dX9_init_130 ?_
  rw [show nI 15 + nI 97 = nI 112 by decide +kernel]
  refine j_istore_n (pc := 131) X dX9_init_131 (by decide +kernel) rfl ?_
  refine j_iload_n (pc := 132) X dX9_init_132 rfl ?_
  refine j_bipush (pc := 133) (v := nI 105) X dX9_init_133 (by decide +kernel) ?_
  refine j_icmp_eq (pc := 135) (tgt := 150) X dX9_init_135 (by decide +kernel) (fun h => absurd h (by decide +kernel)) (fun _ => ?_)
  refine j_iload_n (pc := 138) X dX9_init_138 rfl ?_
  refine j_bipush (pc := 139) (v := nI 106) X dX9_init_139 (by decide +kernel) ?_
  refine j_icmp_eq (pc := 141) (tgt := 150) X dX9_init_141 (by decide +kernel) (fun h => absurd h (by decide +kernel)) (fun _ => ?_)
  refine j_iload_n (pc := 144) X dX9_init_144 rfl ?_
  refine j_bipush (pc := 145) (v := nI 108) X dX9_init_145 (by decide +kernel) ?_
  refine j_icmp_ne (pc := 147) (tgt := 154) X dX9_init_147 (by decide +kernel) (fun _ => ?_) (fun h => absurd h (by decide +kernel))
  refine j_iconst (pc := 154) (v := nI 0) X dX9_init_154 (by decide +kernel) ?_
  refine j_istore_n (pc := 155) X dX9_init_155 (by decide +kernel) rfl ?_
  refine j_iload_n (pc := 156) X dX9_init_156 rfl ?_
  refine j_bipush (pc := 157) (v := nI 102) X dX9_init_157 (by decide +kernel) ?_
  refine j_icmp_eq (pc := 159) (tgt := 174) X dX9_init_159 (by decide +kernel) (fun h => absurd h (by decide +kernel)) (fun _ => ?_)
  refine j_iload_n (pc := 162) X dX9_init_162 rfl ?_
  refine j_bipush (pc := 163) (v := nI 114) X dX9_init_163 (by decide +kernel) ?_
  refine j_icmp_eq (pc := 165) (tgt := 174) X dX9_init_165 (by decide +kernel) (fun h => absurd h (by decide +kernel)) (fun _ => ?_)
  refine j_iload_n (pc := 168) X dX9_init_168 rfl ?_
  refine j_bipush (pc := 169) (v := nI 116) X dX9_init_169 (by decide +kernel) ?_
  refine j_icmp_ne (pc := 171) (tgt := 178) X dX9_init_171 (by decide +kernel) (fun _ => ?_) (fun h => absurd h (by decide +kernel))
  refine j_iconst (pc := 178) (v := nI 0) X dX9_init_178 (by decide +kernel) ?_
  refine j_istore (pc := 179) X dX9_init_179 (by decide +kernel) rfl ?_
  refine j_aload_n (pc := 181) X dX9_init_181 rfl ?_
  refine j_get (pc := 182) X iwi_X9_init_X9 wm0 rfl 0 (Nat.le_of_ble_eq_true rfl) lki_X9_7 (v := .ref (am 1)) rfl dX9_init_182 ?_
  refine j_bipush (pc := 185) (v := nI 8) X dX9_init_185 (by decide +kernel) ?_
  refine j_iload_n (pc := 187) X dX9_init_187 rfl ?_
  refine j_iadd (pc := 188) X dX9_init_188 ?_
  rw [show nI 8 + nI 15 = nI 23 by decide +kernel]
  refine j_iload_n (pc := 189) X dX9_init_189 rfl ?_
  refine j_if_eq (pc := 190) (tgt := 197) X dX9_init_190 (by decide +kernel) (fun _ => ?_) (fun h => absurd (by decide +kernel) h)
  refine j_iload (pc := 197) X dX9_init_197 rfl ?_
  refine j_if_eq (pc := 199) (tgt := 206) X dX9_init_199 (by decide +kernel) (fun _ => ?_) (fun h => absurd (by decide +kernel) h)
  refine j_iload_n (pc := 206) X dX9_init_206 rfl ?_
  refine j_bipush (pc := 207) (v := nI 109) X dX9_init_207 (by decide +kernel) ?_
  refine j_icmp_eq (pc := 209) (tgt := 218) X dX9_init_209 (by decide +kernel) (fun h => absurd h (by decide +kernel)) (fun _ => ?_)
  refine j_iload_n (pc := 212) X dX9_init_212 rfl ?_
  refine j_bipush (pc := 213) (v := nI 119) X dX9_init_213 (by decide +kernel) ?_
  refine j_icmp_ne (pc := 215) (tgt := 223) X dX9_init_215 (by decide +kernel) (fun _ => ?_) (fun h => absurd h (by decide +kernel))
  refine j_iconst (pc := 223) (v := FWt 15) X dX9_init_223 (by decide +kernel) ?_
  refine j_iast (C' := m9s M (8 + 15) (FWt 15)) (pc := 224) X Yw wm1 (vp_in_nI (by decide +kernel) (by decide +kernel)) dX9_init_224 (by rw [nI_clamp (by decide +kernel)]; exact sm1 _) ?_
  refine j_iinc (pc := 225) (v := nI 16) X dX9_init_225 rfl (by decide +kernel) (by decide +kernel) rfl ?_
  refine j_goto (pc := 228) (tgt := 121) X dX9_init_228 (by decide +kernel) ?_
  exact kk _ _ _
theorem m9_16 (X : Kx (gS g 10 3690) cI cS cX9_init RX9 wsX9_init 5 rm) (Yw : Kw (gS g 10 3690) (WM cI am) A) (kk : ∀ o2 o3 o4 : Option Value, J (gS g 10 3690) (WM cI am) 5 (m9s M (8 + 16) (FWt 16)) 121 [some (.ref (am 0)), some (.int (nI 17)), o2, o3, o4] []) : J (gS g 10 3690) (WM cI am) 5 M 121 [some (.ref (am 0)), some (.int (nI 16)), o2, o3, o4] [] := by
  refine j_iload_n (pc := 121) X dX9_init_121 rfl ?_
  refine j_bipush (pc := 122) (v := nI 26) X dX9_init_122 (by decide +kernel) ?_
  refine j_icmp_ge (pc := 124) (tgt := 231) X dX9_init_124 (by decide +kernel) (fun h => absurd h (by decide +kernel)) (fun _ => ?_)
  refine j_iload_n (pc := 127) X dX9_init_127 rfl ?_
  refine j_bipush (pc := 128) (v := nI 97) X dX9_init_128 (by decide +kernel) ?_
  refine j_iadd (pc := 130) X dX9_init_130 ?_
  rw [show nI 16 + nI 97 = nI 113 by decide +kernel]
  refine j_istore_n (pc := 131) X dX9_init_131 (by decide +kernel) rfl ?_
  refine j_iload_n (pc := 132) X dX9_init_132 rfl ?_
  refine j_bipush (pc := 133) (v := nI 105) X dX9_init_133 (by decide +kernel) ?_
  refine j_icmp_eq (pc := 135) (tgt := 150) X dX9_init_135 (by decide +kernel) (fun h => absurd h (by decide +kernel)) (fun _ => ?_)
  refine j_iload_n (pc := 138) X dX9_init_138 rfl ?_
  refine j_bipush (pc := 139) (v := nI 106) X dX9_init_139 (by decide +kernel) ?_
  refine j_icmp_eq (pc := 141) (tgt := 150) X dX9_init_141 (by decide +kernel) (fun h => absurd h (by decide +kernel)) (fun _ => ?_)
  refine j_iload_n (pc := 144) X dX9_init_144 rfl ?_
  refine j_bipush (pc := 145) (v := nI 108) X dX9_init_145 (by decide +kernel) ?_
  refine j_icmp_ne (pc := 147) (tgt := 154) X dX9_init_147 (by decide +kernel) (fun _ => ?_) (fun h => absurd h (by decide +kernel))
  refine j_iconst (pc := 154) (v := nI 0) X dX9_init_154 (by decide +kernel) ?_
  refine j_istore_n (pc := 155) X dX9_init_155 (by decide +kernel) rfl ?_
  refine j_iload_n (pc := 156) X dX9_init_156 rfl ?_
  refine j_bipush (pc := 157) (v := nI 102) X dX9_init_157 (by decide +kernel) ?_
  refine j_icmp_eq (pc := 159) (tgt := 174) X dX9_init_159 (by decide +kernel) (fun h => absurd h (by decide +kernel)) (fun _ => ?_)
  refine j_iload_n (pc := 162) X dX9_init_162 rfl ?_
  refine j_bipush (pc := 163) (v := nI 114) X dX9_init_163 (by decide +kernel) ?_
  refine j_icmp_eq (pc := 165) (tgt := 174) X dX9_init_165 (by decide +kernel) (fun h => absurd h (by decide +kernel)) (fun _ => ?_)
  refine j_iload_n (pc := 168) X dX9_init_168 rfl ?_
  refine j_bipush (pc := 169) (v := nI 116) X dX9_init_169 (by decide +kernel) ?_
  refine j_icmp_ne (pc := 171) (tgt := 178) X dX9_init_171 (by decide +kernel) (fun _ => ?_) (fun h => absurd h (by decide +kernel))
  refine j_iconst (pc := 178) (v := nI 0) X dX9_init_178 (by decide +kernel) ?_
  refine j_istore (pc := 179) X dX9_init_179 (by decide +kernel) rfl ?_
  refine j_aload_n (pc := 181) X dX9_init_181 rfl ?_
  refine j_get (pc := 182) X iwi_X9_init_X9 wm0 rfl 0 (Nat.le_of_ble_eq_true rfl) lki_X9_7 (v := .ref (am 1)) rfl dX9_init_182 ?_
  refine j_bipush (pc := 185) (v := nI 8) X dX9_init_185 (by decide +kernel) ?_
  refine j_iload_n (pc := 187) X dX9_init_187 rfl ?_
  refine j_iadd (pc := 188) X dX9_init_188 ?_
  rw [show nI 8 + nI 16 = nI 24 by decide +kernel]
  refine j_iload_n (pc := 189) X dX9_init_189 rfl ?_
  refine j_if_eq (pc := 190) (tgt := 197) X dX9_init_190 (by decide +kernel) (fun _ => ?_) (fun h => absurd (by decide +kernel) h)
  refine j_iload (pc := 197) X dX9_init_197 rfl ?_
  refine j_if_eq (pc := 199) (tgt := 206) X dX9_init_199 (by decide +kernel) (fun _ => ?_) (fun h => absurd (by decide +kernel) h)
  refine j_iload_n (pc := 206) X dX9_init_206 rfl ?_
  refine j_bipush (pc := 207) (v := nI 109) X dX9_init_207 (by decide +kernel) ?_
  refine j_icmp_eq (pc := 209) (tgt := 218) X dX9_init_209 (by decide +kernel) (fun h => absurd h (by decide +kernel)) (fun _ => ?_)
  refine j_iload_n (pc := 212) X dX9_init_212 rfl ?_
  refine j_bipush (pc := 213) (v := nI 119) X dX9_init_213 (by decide +kernel) ?_
  refine j_icmp_ne (pc := 215) (tgt := 223) X dX9_init_215 (by decide +kernel) (fun _ => ?_) (fun h => absurd h (by decide +kernel))
  refine j_iconst (pc := 223) (v := FWt 16) X dX9_init_223 (by decide +kernel) ?_
  refine j_iast (C' := m9s M (8 + 16) (FWt 16)) (pc := 224) X Yw wm1 (vp_in_nI (by decide +kernel) (by decide +kernel)) dX9_init_224 (by rw [nI_clamp (by decide +kernel)]; exact sm1 _) ?_
  refine j_iinc (pc := 225) (v := nI 17) X dX9_init_225 rfl (by decide +kernel) (by decide +kernel) rfl ?_
  refine j_goto (pc := 228) (tgt := 121) X dX9_init_228 (by decide +kernel) ?_
  exact kk _ _ _
theorem m9_17 (X : Kx (gS g 10 3690) cI cS cX9_init RX9 wsX9_init 5 rm) (Yw : Kw (gS g 10 3690) (WM cI am) A) (kk : ∀ o2 o3 o4 : Option Value, J (gS g 10 3690) (WM cI am) 5 (m9s M (8 + 17) (FWt 17)) 121 [some (.ref (am 0)), some (.int (nI 18)), o2, o3, o4] []) : J (gS g 10 3690) (WM cI am) 5 M 121 [some (.ref (am 0)), some (.int (nI 17)), o2, o3, o4] [] := by
  refine j_iload_n (pc := 121) X dX9_init_121 rfl ?_
  refine j_bipush (pc := 122) (v := nI 26) X dX9_init_122 (by decide +kernel) ?_
  refine j_icmp_ge (pc := 124) (tgt := 231) X dX9_init_124 (by decide +kernel) (fun h => absurd h (by decide +kernel)) (fun _ => ?_)
  refine j_iload_n (pc := 127) X dX9_init_127 rfl ?_
  refine j_bipush (pc := 128) (v := nI 97) X dX9_init_128 (by decide +kernel) ?_
  refine j_iadd (pc := 130) X dX9_init_130 ?_
  rw [show nI 17 + nI 97 = nI 114 by decide +kernel]
  refine j_istore_n (pc := 131) X dX9_init_131 (by decide +kernel) rfl ?_
  refine j_iload_n (pc := 132) X dX9_init_132 rfl ?_
  refine j_bipush (pc := 133) (v := nI 105) X dX9_init_133 (by decide +kernel) ?_
  refine j_icmp_eq (pc := 135) (tgt := 150) X dX9_init_135 (by decide +kernel) (fun h => absurd h (by decide +kernel)) (fun _ => ?_)
  refine j_iload_n (pc := 138) X dX9_init_138 rfl ?_
  refine j_bipush (pc := 139) (v := nI 106) X dX9_init_139 (by decide +kernel) ?_
  refine j_icmp_eq (pc := 141) (tgt := 150) X dX9_init_141 (by decide +kernel) (fun h => absurd h (by decide +kernel)) (fun _ => ?_)
  refine j_iload_n (pc := 144) X dX9_init_144 rfl ?_
  refine j_bipush (pc := 145) (v := nI 108) X dX9_init_145 (by decide +kernel) ?_
  refine j_icmp_ne (pc := 147) (tgt := 154) X dX9_init_147 (by decide +kernel) (fun _ => ?_) (fun h => absurd h (by decide +kernel))
  refine j_iconst (pc := 154) (v := nI 0) X dX9_init_154 (by decide +kernel) ?_
  refine j_istore_n (pc := 155) X dX9_init_155 (by decide +kernel) rfl ?_
  refine j_iload_n (pc := 156) X dX9_init_156 rfl ?_
  refine j_bipush (pc := 157) (v := nI 102) X dX9_init_157 (by decide +kernel) ?_
  refine j_icmp_eq (pc := 159) (tgt := 174) X dX9_init_159 (by decide +kernel) (fun h => absurd h (by decide +kernel)) (fun _ => ?_)
  refine j_iload_n (pc := 162) X dX9_init_162 rfl ?_
  refine j_bipush (pc := 163) (v := nI 114) X dX9_init_163 (by decide +kernel) ?_
  refine j_icmp_eq (pc := 165) (tgt := 174) X dX9_init_165 (by decide +kernel) (fun _ => ?_) (fun h => absurd (by decide +kernel) h)
  refine j_iconst (pc := 174) (v := nI 1) X dX9_init_174 (by decide +kernel) ?_
  refine j_goto (pc := 175) (tgt := 179) X dX9_init_175 (by decide +kernel) ?_
  refine j_istore (pc := 179) X dX9_init_179 (by decide +kernel) rfl ?_
  refine j_aload_n (pc := 181) X dX9_init_181 rfl ?_
  refine j_get (pc := 182) X iwi_X9_init_X9 wm0 rfl 0 (Nat.le_of_ble_eq_true rfl) lki_X9_7 (v := .ref (am 1)) rfl dX9_init_182 ?_
  refine j_bipush (pc := 185) (v := nI 8) X dX9_init_185 (by decide +kernel) ?_
  refine j_iload_n (pc := 187) X dX9_init_187 rfl ?_
  refine j_iadd (pc := 188) X dX9_init_188 ?_
  rw [show nI 8 + nI 17 = nI 25 by decide +kernel]
  refine j_iload_n (pc := 189) X dX9_init_189 rfl ?_
  refine j_if_eq (pc := 190) (tgt := 197) X dX9_init_190 (by decide +kernel) (fun _ => ?_) (fun h => absurd (by decide +kernel) h)
  refine j_iload (pc := 197) X dX9_init_197 rfl ?_
  refine j_if_eq (pc := 199) (tgt := 206) X dX9_init_199 (by decide +kernel) (fun h => absurd h (by decide +kernel)) (fun _ => ?_)
  refine j_iconst (pc := 202) (v := FWt 17) X dX9_init_202 (by decide +kernel) ?_
  refine j_goto (pc := 203) (tgt := 224) X dX9_init_203 (by decide +kernel) ?_
  refine j_iast (C' := m9s M (8 + 17) (FWt 17)) (pc := 224) X Yw wm1 (vp_in_nI (by decide +kernel) (by decide +kernel)) dX9_init_224 (by rw [nI_clamp (by decide +kernel)]; exact sm1 _) ?_
  refine j_iinc (pc := 225) (v := nI 18) X dX9_init_225 rfl (by decide +kernel) (by decide +kernel) rfl ?_
  refine j_goto (pc := 228) (tgt := 121) X dX9_init_228 (by decide +kernel) ?_
  exact kk _ _ _
theorem m9_18 (X : Kx (gS g 10 3690) cI cS cX9_init RX9 wsX9_init 5 rm) (Yw : Kw (gS g 10 3690) (WM cI am) A) (kk : ∀ o2 o3 o4 : Option Value, J (gS g 10 3690) (WM cI am) 5 (m9s M (8 + 18) (FWt 18)) 121 [some (.ref (am 0)), some (.int (nI 19)), o2, o3, o4] []) : J (gS g 10 3690) (WM cI am) 5 M 121 [some (.ref (am 0)), some (.int (nI 18)), o2, o3, o4] [] := by
  refine j_iload_n (pc := 121) X dX9_init_121 rfl ?_
  refine j_bipush (pc := 122) (v := nI 26) X dX9_init_122 (by decide +kernel) ?_
  refine j_icmp_ge (pc := 124) (tgt := 231) X dX9_init_124 (by decide +kernel) (fun h => absurd h (by decide +kernel)) (fun _ => ?_)
  refine j_iload_n (pc := 127) X dX9_init_127 rfl ?_
  refine j_bipush (pc := 128) (v := nI 97) X dX9_init_128 (by decide +kernel) ?_
  refine j_iadd (pc := 130) X dX9_init_130 ?_
  rw [show nI 18 + nI 97 = nI 115 by decide +kernel]
  refine j_istore_n (pc := 131) X dX9_init_131 (by decide +kernel) rfl ?_
  refine j_iload_n (pc := 132) X dX9_init_132 rfl ?_
  refine j_bipush (pc := 133) (v := nI 105) X dX9_init_133 (by decide +kernel) ?_
  refine j_icmp_eq (pc := 135) (tgt := 150) X dX9_init_135 (by decide +kernel) (fun h => absurd h (by decide +kernel)) (fun _ => ?_)
  refine j_iload_n (pc := 138) X dX9_init_138 rfl ?_
  refine j_bipush (pc := 139) (v := nI 106) X dX9_init_139 (by decide +kernel) ?_
  refine j_icmp_eq (pc := 141) (tgt := 150) X dX9_init_141 (by decide +kernel) (fun h => absurd h (by decide +kernel)) (fun _ => ?_)
  refine j_iload_n (pc := 144) X dX9_init_144 rfl ?_
  refine j_bipush (pc := 145) (v := nI 108) X dX9_init_145 (by decide +kernel) ?_
  refine j_icmp_ne (pc := 147) (tgt := 154) X dX9_init_147 (by decide +kernel) (fun _ => ?_) (fun h => absurd h (by decide +kernel))
  refine j_iconst (pc := 154) (v := nI 0) X dX9_init_154 (by decide +kernel) ?_
  refine j_istore_n (pc := 155) X dX9_init_155 (by decide +kernel) rfl ?_
  refine j_iload_n (pc := 156) X dX9_init_156 rfl ?_
  refine j_bipush (pc := 157) (v := nI 102) X dX9_init_157 (by decide +kernel) ?_
  refine j_icmp_eq (pc := 159) (tgt := 174) X dX9_init_159 (by decide +kernel) (fun h => absurd h (by decide +kernel)) (fun _ => ?_)
  refine j_iload_n (pc := 162) X dX9_init_162 rfl ?_
  refine j_bipush (pc := 163) (v := nI 114) X dX9_init_163 (by decide +kernel) ?_
  refine j_icmp_eq (pc := 165) (tgt := 174) X dX9_init_165 (by decide +kernel) (fun h => absurd h (by decide +kernel)) (fun _ => ?_)
  refine j_iload_n (pc := 168) X dX9_init_168 rfl ?_
  refine j_bipush (pc := 169) (v := nI 116) X dX9_init_169 (by decide +kernel) ?_
  refine j_icmp_ne (pc := 171) (tgt := 178) X dX9_init_171 (by decide +kernel) (fun _ => ?_) (fun h => absurd h (by decide +kernel))
  refine j_iconst (pc := 178) (v := nI 0) X dX9_init_178 (by decide +kernel) ?_
  refine j_istore (pc := 179) X dX9_init_179 (by decide +kernel) rfl ?_
  refine j_aload_n (pc := 181) X dX9_init_181 rfl ?_
  refine j_get (pc := 182) X iwi_X9_init_X9 wm0 rfl 0 (Nat.le_of_ble_eq_true rfl) lki_X9_7 (v := .ref (am 1)) rfl dX9_init_182 ?_
  refine j_bipush (pc := 185) (v := nI 8) X dX9_init_185 (by decide +kernel) ?_
  refine j_iload_n (pc := 187) X dX9_init_187 rfl ?_
  refine j_iadd (pc := 188) X dX9_init_188 ?_
  rw [show nI 8 + nI 18 = nI 26 by decide +kernel]
  refine j_iload_n (pc := 189) X dX9_init_189 rfl ?_
  refine j_if_eq (pc := 190) (tgt := 197) X dX9_init_190 (by decide +kernel) (fun _ => ?_) (fun h => absurd (by decide +kernel) h)
  refine j_iload (pc := 197) X dX9_init_197 rfl ?_
  refine j_if_eq (pc := 199) (tgt := 206) X dX9_init_199 (by decide +kernel) (fun _ => ?_) (fun h => absurd (by decide +kernel) h)
  refine j_iload_n (pc := 206) X dX9_init_206 rfl ?_
  refine j_bipush (pc := 207) (v := nI 109) X dX9_init_207 (by decide +kernel) ?_
  refine j_icmp_eq (pc := 209) (tgt := 218) X dX9_init_209 (by decide +kernel) (fun h => absurd h (by decide +kernel)) (fun _ => ?_)
  refine j_iload_n (pc := 212) X dX9_init_212 rfl ?_
  refine j_bipush (pc := 213) (v := nI 119) X dX9_init_213 (by decide +kernel) ?_
  refine j_icmp_ne (pc := 215) (tgt := 223) X dX9_init_215 (by decide +kernel) (fun _ => ?_) (fun h => absurd h (by decide +kernel))
  refine j_iconst (pc := 223) (v := FWt 18) X dX9_init_223 (by decide +kernel) ?_
  refine j_iast (C' := m9s M (8 + 18) (FWt 18)) (pc := 224) X Yw wm1 (vp_in_nI (by decide +kernel) (by decide +kernel)) dX9_init_224 (by rw [nI_clamp (by decide +kernel)]; exact sm1 _) ?_
  refine j_iinc (pc := 225) (v := nI 19) X dX9_init_225 rfl (by decide +kernel) (by decide +kernel) rfl ?_
  refine j_goto (pc := 228) (tgt := 121) X dX9_init_228 (by decide +kernel) ?_
  exact kk _ _ _
theorem m9_19 (X : Kx (gS g 10 3690) cI cS cX9_init RX9 wsX9_init 5 rm) (Yw : Kw (gS g 10 3690) (WM cI am) A) (kk : ∀ o2 o3 o4 : Option Value, J (gS g 10 3690) (WM cI am) 5 (m9s M (8 + 19) (FWt 19)) 121 [some (.ref (am 0)), some (.int (nI 20)), o2, o3, o4] []) : J (gS g 10 3690) (WM cI am) 5 M 121 [some (.ref (am 0)), some (.int (nI 19)), o2, o3, o4] [] := by
  refine j_iload_n (pc := 121) X dX9_init_121 rfl ?_
  refine j_bipush (pc := 122) (v := nI 26) X dX9_init_122 (by decide +kernel) ?_
  refine j_icmp_ge (pc := 124) (tgt := 231) X dX9_init_124 (by decide +kernel) (fun h => absurd h (by decide +kernel)) (fun _ => ?_)
  refine j_iload_n (pc := 127) X dX9_init_127 rfl ?_
  refine j_bipush (pc := 128) (v := nI 97) X dX9_init_128 (by decide +kernel) ?_
  refine j_iadd (pc := 130) X dX9_init_130 ?_
  rw [show nI 19 + nI 97 = nI 116 by decide +kernel]
  refine j_istore_n (pc := 131) X dX9_init_131 (by decide +kernel) rfl ?_
  refine j_iload_n (pc := 132) X dX9_init_132 rfl ?_
  refine j_bipush (pc := 133) (v := nI 105) X dX9_init_133 (by decide +kernel) ?_
  refine j_icmp_eq (pc := 135) (tgt := 150) X dX9_init_135 (by decide +kernel) (fun h => absurd h (by decide +kernel)) (fun _ => ?_)
  refine j_iload_n (pc := 138) X dX9_init_138 rfl ?_
  refine j_bipush (pc := 139) (v := nI 106) X dX9_init_139 (by decide +kernel) ?_
  refine j_icmp_eq (pc := 141) (tgt := 150) X dX9_init_141 (by decide +kernel) (fun h => absurd h (by decide +kernel)) (fun _ => ?_)
  refine j_iload_n (pc := 144) X dX9_init_144 rfl ?_
  refine j_bipush (pc := 145) (v := nI 108) X dX9_init_145 (by decide +kernel) ?_
  refine j_icmp_ne (pc := 147) (tgt := 154) X dX9_init_147 (by decide +kernel) (fun _ => ?_) (fun h => absurd h (by decide +kernel))
  refine j_iconst (pc := 154) (v := nI 0) X dX9_init_154 (by decide +kernel) ?_
  refine j_istore_n (pc := 155) X dX9_init_155 (by decide +kernel) rfl ?_
  refine j_iload_n (pc := 156) X dX9_init_156 rfl ?_
  refine j_bipush (pc := 157) (v := nI 102) X dX9_init_157 (by decide +kernel) ?_
  refine j_icmp_eq (pc := 159) (tgt := 174) X dX9_init_159 (by decide +kernel) (fun h => absurd h (by decide +kernel)) (fun _ => ?_)
  refine j_iload_n (pc := 162) X dX9_init_162 rfl ?_
  refine j_bipush (pc := 163) (v := nI 114) X dX9_init_163 (by decide +kernel) ?_
  refine j_icmp_eq (pc := 165) (tgt := 174) X dX9_init_165 (by decide +kernel) (fun h => absurd h (by decide +kernel)) (fun _ => ?_)
  refine j_iload_n (pc := 168) X dX9_init_168 rfl ?_
  refine j_bipush (pc := 169) (v := nI 116) X dX9_init_169 (by decide +kernel) ?_
  refine j_icmp_ne (pc := 171) (tgt := 178) X dX9_init_171 (by decide +kernel) (fun h => absurd (by decide +kernel) h) (fun _ => ?_)
  refine j_iconst (pc := 174) (v := nI 1) X dX9_init_174 (by decide +kernel) ?_
  refine j_goto (pc := 175) (tgt := 179) X dX9_init_175 (by decide +kernel) ?_
  refine j_istore (pc := 179) X dX9_init_179 (by decide +kernel) rfl ?_
  refine j_aload_n (pc := 181) X dX9_init_181 rfl ?_
  refine j_get (pc := 182) X iwi_X9_init_X9 wm0 rfl 0 (Nat.le_of_ble_eq_true rfl) lki_X9_7 (v := .ref (am 1)) rfl dX9_init_182 ?_
  refine j_bipush (pc := 185) (v := nI 8) X dX9_init_185 (by decide +kernel) ?_
  refine j_iload_n (pc := 187) X dX9_init_187 rfl ?_
  refine j_iadd (pc := 188) X dX9_init_188 ?_
  rw [show nI 8 + nI 19 = nI 27 by decide +kernel]
  refine j_iload_n (pc := 189) X dX9_init_189 rfl ?_
  refine j_if_eq (pc := 190) (tgt := 197) X dX9_init_190 (by decide +kernel) (fun _ => ?_) (fun h => absurd (by decide +kernel) h)
  refine j_iload (pc := 197) X dX9_init_197 rfl ?_
  refine j_if_eq (pc := 199) (tgt := 206) X dX9_init_199 (by decide +kernel) (fun h => absurd h (by decide +kernel)) (fun _ => ?_)
  refine j_iconst (pc := 202) (v := FWt 19) X dX9_init_202 (by decide +kernel) ?_
  refine j_goto (pc := 203) (tgt := 224) X dX9_init_203 (by decide +kernel) ?_
  refine j_iast (C' := m9s M (8 + 19) (FWt 19)) (pc := 224) X Yw wm1 (vp_in_nI (by decide +kernel) (by decide +kernel)) dX9_init_224 (by rw [nI_clamp (by decide +kernel)]; exact sm1 _) ?_
  refine j_iinc (pc := 225) (v := nI 20) X dX9_init_225 rfl (by decide +kernel) (by decide +kernel) rfl ?_
  refine j_goto (pc := 228) (tgt := 121) X dX9_init_228 (by decide +kernel) ?_
  exact kk _ _ _
theorem m9_20 (X : Kx (gS g 10 3690) cI cS cX9_init RX9 wsX9_init 5 rm) (Yw : Kw (gS g 10 3690) (WM cI am) A) (kk : ∀ o2 o3 o4 : Option Value, J (gS g 10 3690) (WM cI am) 5 (m9s M (8 + 20) (FWt 20)) 121 [some (.ref (am 0)), some (.int (nI 21)), o2, o3, o4] []) : J (gS g 10 3690) (WM cI am) 5 M 121 [some (.ref (am 0)), some (.int (nI 20)), o2, o3, o4] [] := by
  refine j_iload_n (pc := 121) X dX9_init_121 rfl ?_
  refine j_bipush (pc := 122) (v := nI 26) X dX9_init_122 (by decide +kernel) ?_
  refine j_icmp_ge (pc := 124) (tgt := 231) X dX9_init_124 (by decide +kernel) (fun h => absurd h (by decide +kernel)) (fun _ => ?_)
  refine j_iload_n (pc := 127) X dX9_init_127 rfl ?_
  refine j_bipush (pc := 128) (v := nI 97) X dX9_init_128 (by decide +kernel) ?_
  refine j_iadd (pc := 130) X dX9_init_130 ?_
  rw [show nI 20 + nI 97 = nI 117 by decide +kernel]
  refine j_istore_n (pc := 131) X dX9_init_131 (by decide +kernel) rfl ?_
  refine j_iload_n (pc := 132) X dX9_init_132 rfl ?_
  refine j_bipush (pc := 133) (v := nI 105) X dX9_init_133 (by decide +kernel) ?_
  refine j_icmp_eq (pc := 135) (tgt := 150) X dX9_init_135 (by decide +kernel) (fun h => absurd h (by decide +kernel)) (fun _ => ?_)
  refine j_iload_n (pc := 138) X dX9_init_138 rfl ?_
  refine j_bipush (pc := 139) (v := nI 106) X dX9_init_139 (by decide +kernel) ?_
  refine j_icmp_eq (pc := 141) (tgt := 150) X dX9_init_141 (by decide +kernel) (fun h => absurd h (by decide +kernel)) (fun _ => ?_)
  refine j_iload_n (pc := 144) X dX9_init_144 rfl ?_
  refine j_bipush (pc := 145) (v := nI 108) X dX9_init_145 (by decide +kernel) ?_
  refine j_icmp_ne (pc := 147) (tgt := 154) X dX9_init_147 (by decide +kernel) (fun _ => ?_) (fun h => absurd h (by decide +kernel))
  refine j_iconst (pc := 154) (v := nI 0) X dX9_init_154 (by decide +kernel) ?_
  refine j_istore_n (pc := 155) X dX9_init_155 (by decide +kernel) rfl ?_
  refine j_iload_n (pc := 156) X dX9_init_156 rfl ?_
  refine j_bipush (pc := 157) (v := nI 102) X dX9_init_157 (by decide +kernel) ?_
  refine j_icmp_eq (pc := 159) (tgt := 174) X dX9_init_159 (by decide +kernel) (fun h => absurd h (by decide +kernel)) (fun _ => ?_)
  refine j_iload_n (pc := 162) X dX9_init_162 rfl ?_
  refine j_bipush (pc := 163) (v := nI 114) X dX9_init_163 (by decide +kernel) ?_
  refine j_icmp_eq (pc := 165) (tgt := 174) X dX9_init_165 (by decide +kernel) (fun h => absurd h (by decide +kernel)) (fun _ => ?_)
  refine j_iload_n (pc := 168) X dX9_init_168 rfl ?_
  refine j_bipush (pc := 169) (v := nI 116) X dX9_init_169 (by decide +kernel) ?_
  refine j_icmp_ne (pc := 171) (tgt := 178) X dX9_init_171 (by decide +kernel) (fun _ => ?_) (fun h => absurd h (by decide +kernel))
  refine j_iconst (pc := 178) (v := nI 0) X dX9_init_178 (by decide +kernel) ?_
  refine j_istore (pc := 179) X dX9_init_179 (by decide +kernel) rfl ?_
  refine j_aload_n (pc := 181) X dX9_init_181 rfl ?_
  refine j_get (pc := 182) X iwi_X9_init_X9 wm0 rfl 0 (Nat.le_of_ble_eq_true rfl) lki_X9_7 (v := .ref (am 1)) rfl dX9_init_182 ?_
  refine j_bipush (pc := 185) (v := nI 8) X dX9_init_185 (by decide +kernel) ?_
  refine j_iload_n (pc := 187) X dX9_init_187 rfl ?_
  refine j_iadd (pc := 188) X dX9_init_188 ?_
  rw [show nI 8 + nI 20 = nI 28 by decide +kernel]
  refine j_iload_n (pc := 189) X dX9_init_189 rfl ?_
  refine j_if_eq (pc := 190) (tgt := 197) X dX9_init_190 (by decide +kernel) (fun _ => ?_) (fun h => absurd (by decide +kernel) h)
  refine j_iload (pc := 197) X dX9_init_197 rfl ?_
  refine j_if_eq (pc := 199) (tgt := 206) X dX9_init_199 (by decide +kernel) (fun _ => ?_) (fun h => absurd (by decide +kernel) h)
  refine j_iload_n (pc := 206) X dX9_init_206 rfl ?_
  refine j_bipush (pc := 207) (v := nI 109) X dX9_init_207 (by decide +kernel) ?_
  refine j_icmp_eq (pc := 209) (tgt := 218) X dX9_init_209 (by decide +kernel) (fun h => absurd h (by decide +kernel)) (fun _ => ?_)
  refine j_iload_n (pc := 212) X dX9_init_212 rfl ?_
  refine j_bipush (pc := 213) (v := nI 119) X dX9_init_213 (by decide +kernel) ?_
  refine j_icmp_ne (pc := 215) (tgt := 223) X dX9_init_215 (by decide +kernel) (fun _ => ?_) (fun h => absurd h (by decide +kernel))
  refine j_iconst (pc := 223) (v := FWt 20) X dX9_init_223 (by decide +kernel) ?_
  refine j_iast (C' := m9s M (8 + 20) (FWt 20)) (pc := 224) X Yw wm1 (vp_in_nI (by decide +kernel) (by decide +kernel)) dX9_init_224 (by rw [nI_clamp (by decide +kernel)]; exact sm1 _) ?_
  refine j_iinc (pc := 225) (v := nI 21) X dX9_init_225 rfl (by decide +kernel) (by decide +kernel) rfl ?_
  refine j_goto (pc := 228) (tgt := 121) X dX9_init_228 (by decide +kernel) ?_
  exact kk _ _ _
theorem m9_21 (X : Kx (gS g 10 3690) cI cS cX9_init RX9 wsX9_init 5 rm) (Yw : Kw (gS g 10 3690) (WM cI am) A) (kk : ∀ o2 o3 o4 : Option Value, J (gS g 10 3690) (WM cI am) 5 (m9s M (8 + 21) (FWt 21)) 121 [some (.ref (am 0)), some (.int (nI 22)), o2, o3, o4] []) : J (gS g 10 3690) (WM cI am) 5 M 121 [some (.ref (am 0)), some (.int (nI 21)), o2, o3, o4] [] := by
  refine j_iload_n (pc := 121) X dX9_init_121 rfl ?_
  refine j_bipush (pc := 122) (v := nI 26) X dX9_init_122 (by decide +kernel) ?_
  refine j_icmp_ge (pc := 124) (tgt := 231) X dX9_init_124 (by decide +kernel) (fun h => absurd h (by decide +kernel)) (fun _ => ?_)
  refine j_iload_n (pc := 127) X dX9_init_127 rfl ?_
  refine j_bipush (pc := 128) (v := nI 97) X dX9_init_128 (by decide +kernel) ?_
  refine j_iadd (pc := 130) X dX9_init_130 ?_
  rw [show nI 21 + nI 97 = nI 118 by decide +kernel]
  refine j_istore_n (pc := 131) X dX9_init_131 (by decide +kernel) rfl ?_
  refine j_iload_n (pc := 132) X dX9_init_132 rfl ?_
  refine j_bipush (pc := 133) (v := nI 105) X dX9_init_133 (by decide +kernel) ?_
  refine j_icmp_eq (pc := 135) (tgt := 150) X dX9_init_135 (by decide +kernel) (fun h => absurd h (by decide +kernel)) (fun _ => ?_)
  refine j_iload_n (pc := 138) X dX9_init_138 rfl ?_
  refine j_bipush (pc := 139) (v := nI 106) X dX9_init_139 (by decide +kernel) ?_
  refine j_icmp_eq (pc := 141) (tgt := 150) X dX9_init_141 (by decide +kernel) (fun h => absurd h (by decide +kernel)) (fun _ => ?_)
  refine j_iload_n (pc := 144) X dX9_init_144 rfl ?_
  refine j_bipush (pc := 145) (v := nI 108) X dX9_init_145 (by decide +kernel) ?_
  refine j_icmp_ne (pc := 147) (tgt := 154) X dX9_init_147 (by decide +kernel) (fun _ => ?_) (fun h => absurd h (by decide +kernel))
  refine j_iconst (pc := 154) (v := nI 0) X dX9_init_154 (by decide +kernel) ?_
  refine j_istore_n (pc := 155) X dX9_init_155 (by decide +kernel) rfl ?_
  refine j_iload_n (pc := 156) X dX9_init_156 rfl ?_
  refine j_bipush (pc := 157) (v := nI 102) X dX9_init_157 (by decide +kernel) ?_
  refine j_icmp_eq (pc := 159) (tgt := 174) X dX9_init_159 (by decide +kernel) (fun h => absurd h (by decide +kernel)) (fun _ => ?_)
  refine j_iload_n (pc := 162) X dX9_init_162 rfl ?_
  refine j_bipush (pc := 163) (v := nI 114) X dX9_init_163 (by decide +kernel) ?_
  refine j_icmp_eq (pc := 165) (tgt := 174) X dX9_init_165 (by decide +kernel) (fun h => absurd h (by decide +kernel)) (fun _ => ?_)
  refine j_iload_n (pc := 168) X dX9_init_168 rfl ?_
  refine j_bipush (pc := 169) (v := nI 116) X dX9_init_169 (by decide +kernel) ?_
  refine j_icmp_ne (pc := 171) (tgt := 178) X dX9_init_171 (by decide +kernel) (fun _ => ?_) (fun h => absurd h (by decide +kernel))
  refine j_iconst (pc := 178) (v := nI 0) X dX9_init_178 (by decide +kernel) ?_
  refine j_istore (pc := 179) X dX9_init_179 (by decide +kernel) rfl ?_
  refine j_aload_n (pc := 181) X dX9_init_181 rfl ?_
  refine j_get (pc := 182) X iwi_X9_init_X9 wm0 rfl 0 (Nat.le_of_ble_eq_true rfl) lki_X9_7 (v := .ref (am 1)) rfl dX9_init_182 ?_
  refine j_bipush (pc := 185) (v := nI 8) X dX9_init_185 (by decide +kernel) ?_
  refine j_iload_n (pc := 187) X dX9_init_187 rfl ?_
  refine j_iadd (pc := 188) X dX9_init_188 ?_
  rw [show nI 8 + nI 21 = nI 29 by decide +kernel]
  refine j_iload_n (pc := 189) X dX9_init_189 rfl ?_
  refine j_if_eq (pc := 190) (tgt := 197) X dX9_init_190 (by decide +kernel) (fun _ => ?_) (fun h => absurd (by decide +kernel) h)
  refine j_iload (pc := 197) X dX9_init_197 rfl ?_
  refine j_if_eq (pc := 199) (tgt := 206) X dX9_init_199 (by decide +kernel) (fun _ => ?_) (fun h => absurd (by decide +kernel) h)
  refine j_iload_n (pc := 206) X dX9_init_206 rfl ?_
  refine j_bipush (pc := 207) (v := nI 109) X dX9_init_207 (by decide +kernel) ?_
  refine j_icmp_eq (pc := 209) (tgt := 218) X dX9_init_209 (by decide +kernel) (fun h => absurd h (by decide +kernel)) (fun _ => ?_)
  refine j_iload_n (pc := 212) X dX9_init_212 rfl ?_
  refine j_bipush (pc := 213) (v := nI 119) X dX9_init_213 (by decide +kernel) ?_
  refine j_icmp_ne (pc := 215) (tgt := 223) X dX9_init_215 (by decide +kernel) (fun _ => ?_) (fun h => absurd h (by decide +kernel))
  refine j_iconst (pc := 223) (v := FWt 21) X dX9_init_223 (by decide +kernel) ?_
  refine j_iast (C' := m9s M (8 + 21) (FWt 21)) (pc := 224) X Yw wm1 (vp_in_nI (by decide +kernel) (by decide +kernel)) dX9_init_224 (by rw [nI_clamp (by decide +kernel)]; exact sm1 _) ?_
  refine j_iinc (pc := 225) (v := nI 22) X dX9_init_225 rfl (by decide +kernel) (by decide +kernel) rfl ?_
  refine j_goto (pc := 228) (tgt := 121) X dX9_init_228 (by decide +kernel) ?_
  exact kk _ _ _
theorem m9_22 (X : Kx (gS g 10 3690) cI cS cX9_init RX9 wsX9_init 5 rm) (Yw : Kw (gS g 10 3690) (WM cI am) A) (kk : ∀ o2 o3 o4 : Option Value, J (gS g 10 3690) (WM cI am) 5 (m9s M (8 + 22) (FWt 22)) 121 [some (.ref (am 0)), some (.int (nI 23)), o2, o3, o4] []) : J (gS g 10 3690) (WM cI am) 5 M 121 [some (.ref (am 0)), some (.int (nI 22)), o2, o3, o4] [] := by
  refine j_iload_n (pc := 121) X dX9_init_121 rfl ?_
  refine j_bipush (pc := 122) (v := nI 26) X dX9_init_122 (by decide +kernel) ?_
  refine j_icmp_ge (pc := 124) (tgt := 231) X dX9_init_124 (by decide +kernel) (fun h => absurd h (by decide +kernel)) (fun _ => ?_)
  refine j_iload_n (pc := 127) X dX9_init_127 rfl ?_
  refine j_bipush (pc := 128) (v := nI 97) X dX9_init_128 (by decide +kernel) ?_
  refine j_iadd (pc := 130) X dX9_init_130 ?_
  rw [show nI 22 + nI 97 = nI 119 by decide +kernel]
  refine j_istore_n (pc := 131) X dX9_init_131 (by decide +kernel) rfl ?_
  refine j_iload_n (pc := 132) X dX9_init_132 rfl ?_
  refine j_bipush (pc := 133) (v := nI 105) X dX9_init_133 (by decide +kernel) ?_
  refine j_icmp_eq (pc := 135) (tgt := 150) X dX9_init_135 (by decide +kernel) (fun h => absurd h (by decide +kernel)) (fun _ => ?_)
  refine j_iload_n (pc := 138) X dX9_init_138 rfl ?_
  refine j_bipush (pc := 139) (v := nI 106) X dX9_init_139 (by decide +kernel) ?_
  refine j_icmp_eq (pc := 141) (tgt := 150) X dX9_init_141 (by decide +kernel) (fun h => absurd h (by decide +kernel)) (fun _ => ?_)
  refine j_iload_n (pc := 144) X dX9_init_144 rfl ?_
  refine j_bipush (pc := 145) (v := nI 108) X dX9_init_145 (by decide +kernel) ?_
  refine j_icmp_ne (pc := 147) (tgt := 154) X dX9_init_147 (by decide +kernel) (fun _ => ?_) (fun h => absurd h (by decide +kernel))
  refine j_iconst (pc := 154) (v := nI 0) X dX9_init_154 (by decide +kernel) ?_
  refine j_istore_n (pc := 155) X dX9_init_155 (by decide +kernel) rfl ?_
  refine j_iload_n (pc := 156) X dX9_init_156 rfl ?_
  refine j_bipush (pc := 157) (v := nI 102) X dX9_init_157 (by decide +kernel) ?_
  refine j_icmp_eq (pc := 159) (tgt := 174) X dX9_init_159 (by decide +kernel) (fun h => absurd h (by decide +kernel)) (fun _ => ?_)
  refine j_iload_n (pc := 162) X dX9_init_162 rfl ?_
  refine j_bipush (pc := 163) (v := nI 114) X dX9_init_163 (by decide +kernel) ?_
  refine j_icmp_eq (pc := 165) (tgt := 174) X dX9_init_165 (by decide +kernel) (fun h => absurd h (by decide +kernel)) (fun _ => ?_)
  refine j_iload_n (pc := 168) X dX9_init_168 rfl ?_
  refine j_bipush (pc := 169) (v := nI 116) X dX9_init_169 (by decide +kernel) ?_
  refine j_icmp_ne (pc := 171) (tgt := 178) X dX9_init_171 (by decide +kernel) (fun _ => ?_) (fun h => absurd h (by decide +kernel))
  refine j_iconst (pc := 178) (v := nI 0) X dX9_init_178 (by decide +kernel) ?_
  refine j_istore (pc := 179) X dX9_init_179 (by decide +kernel) rfl ?_
  refine j_aload_n (pc := 181) X dX9_init_181 rfl ?_
  refine j_get (pc := 182) X iwi_X9_init_X9 wm0 rfl 0 (Nat.le_of_ble_eq_true rfl) lki_X9_7 (v := .ref (am 1)) rfl dX9_init_182 ?_
  refine j_bipush (pc := 185) (v := nI 8) X dX9_init_185 (by decide +kernel) ?_
  refine j_iload_n (pc := 187) X dX9_init_187 rfl ?_
  refine j_iadd (pc := 188) X dX9_init_188 ?_
  rw [show nI 8 + nI 22 = nI 30 by decide +kernel]
  refine j_iload_n (pc := 189) X dX9_init_189 rfl ?_
  refine j_if_eq (pc := 190) (tgt := 197) X dX9_init_190 (by decide +kernel) (fun _ => ?_) (fun h => absurd (by decide +kernel) h)
  refine j_iload (pc := 197) X dX9_init_197 rfl ?_
  refine j_if_eq (pc := 199) (tgt := 206) X dX9_init_199 (by decide +kernel) (fun _ => ?_) (fun h => absurd (by decide +kernel) h)
  refine j_iload_n (pc := 206) X dX9_init_206 rfl ?_
  refine j_bipush (pc := 207) (v := nI 109) X dX9_init_207 (by decide +kernel) ?_
  refine j_icmp_eq (pc := 209) (tgt := 218) X dX9_init_209 (by decide +kernel) (fun h => absurd h (by decide +kernel)) (fun _ => ?_)
  refine j_iload_n (pc := 212) X dX9_init_212 rfl ?_
  refine j_bipush (pc := 213) (v := nI 119) X dX9_init_213 (by decide +kernel) ?_
  refine j_icmp_ne (pc := 215) (tgt := 223) X dX9_init_215 (by decide +kernel) (fun h => absurd (by decide +kernel) h) (fun _ => ?_)
  refine j_bipush (pc := 218) (v := FWt 22) X dX9_init_218 (by decide +kernel) ?_
  refine j_goto (pc := 220) (tgt := 224) X dX9_init_220 (by decide +kernel) ?_
  refine j_iast (C' := m9s M (8 + 22) (FWt 22)) (pc := 224) X Yw wm1 (vp_in_nI (by decide +kernel) (by decide +kernel)) dX9_init_224 (by rw [nI_clamp (by decide +kernel)]; exact sm1 _) ?_
  refine j_iinc (pc := 225) (v := nI 23) X dX9_init_225 rfl (by decide +kernel) (by decide +kernel) rfl ?_
  refine j_goto (pc := 228) (tgt := 121) X dX9_init_228 (by decide +kernel) ?_
  exact kk _ _ _
theorem m9_23 (X : Kx (gS g 10 3690) cI cS cX9_init RX9 wsX9_init 5 rm) (Yw : Kw (gS g 10 3690) (WM cI am) A) (kk : ∀ o2 o3 o4 : Option Value, J (gS g 10 3690) (WM cI am) 5 (m9s M (8 + 23) (FWt 23)) 121 [some (.ref (am 0)), some (.int (nI 24)), o2, o3, o4] []) : J (gS g 10 3690) (WM cI am) 5 M 121 [some (.ref (am 0)), some (.int (nI 23)), o2, o3, o4] [] := by
  refine j_iload_n (pc := 121) X dX9_init_121 rfl ?_
  refine j_bipush (pc := 122) (v := nI 26) X dX9_init_122 (by decide +kernel) ?_
  refine j_icmp_ge (pc := 124) (tgt := 231) X dX9_init_124 (by decide +kernel) (fun h => absurd h (by decide +kernel)) (fun _ => ?_)
  refine j_iload_n (pc := 127) X dX9_init_127 rfl ?_
  refine j_bipush (pc := 128) (v := nI 97) X dX9_init_128 (by decide +kernel) ?_
  refine j_iadd (pc := 130) X dX9_init_130 ?_
  rw [show nI 23 + nI 97 = nI 120 by decide +kernel]
  refine j_istore_n (pc := 131) X dX9_init_131 (by decide +kernel) rfl ?_
  refine j_iload_n (pc := 132) X dX9_init_132 rfl ?_
  refine j_bipush (pc := 133) (v := nI 105) X dX9_init_133 (by decide +kernel) ?_
  refine j_icmp_eq (pc := 135) (tgt := 150) X dX9_init_135 (by decide +kernel) (fun h => absurd h (by decide +kernel)) (fun _ => ?_)
  refine j_iload_n (pc := 138) X dX9_init_138 rfl ?_
  refine j_bipush (pc := 139) (v := nI 106) X dX9_init_139 (by decide +kernel) ?_
  refine j_icmp_eq (pc := 141) (tgt := 150) X dX9_init_141 (by decide +kernel) (fun h => absurd h (by decide +kernel)) (fun _ => ?_)
  refine j_iload_n (pc := 144) X dX9_init_144 rfl ?_
  refine j_bipush (pc := 145) (v := nI 108) X dX9_init_145 (by decide +kernel) ?_
  refine j_icmp_ne (pc := 147) (tgt := 154) X dX9_init_147 (by decide +kernel) (fun _ => ?_) (fun h => absurd h (by decide +kernel))
  refine j_iconst (pc := 154) (v := nI 0) X dX9_init_154 (by decide +kernel) ?_
  refine j_istore_n (pc := 155) X dX9_init_155 (by decide +kernel) rfl ?_
  refine j_iload_n (pc := 156) X dX9_init_156 rfl ?_
  refine j_bipush (pc := 157) (v := nI 102) X dX9_init_157 (by decide +kernel) ?_
  refine j_icmp_eq (pc := 159) (tgt := 174) X dX9_init_159 (by decide +kernel) (fun h => absurd h (by decide +kernel)) (fun _ => ?_)
  refine j_iload_n (pc := 162) X dX9_init_162 rfl ?_
  refine j_bipush (pc := 163) (v := nI 114) X dX9_init_163 (by decide +kernel) ?_
  refine j_icmp_eq (pc := 165) (tgt := 174) X dX9_init_165 (by decide +kernel) (fun h => absurd h (by decide +kernel)) (fun _ => ?_)
  refine j_iload_n (pc := 168) X dX9_init_168 rfl ?_
  refine j_bipush (pc := 169) (v := nI 116) X dX9_init_169 (by decide +kernel) ?_
  refine j_icmp_ne (pc := 171) (tgt := 178) X dX9_init_171 (by decide +kernel) (fun _ => ?_) (fun h => absurd h (by decide +kernel))
  refine j_iconst (pc := 178) (v := nI 0) X dX9_init_178 (by decide +kernel) ?_
  refine j_istore (pc := 179) X dX9_init_179 (by decide +kernel) rfl ?_
  refine j_aload_n (pc := 181) X dX9_init_181 rfl ?_
  refine j_get (pc := 182) X iwi_X9_init_X9 wm0 rfl 0 (Nat.le_of_ble_eq_true rfl) lki_X9_7 (v := .ref (am 1)) rfl dX9_init_182 ?_
  refine j_bipush (pc := 185) (v := nI 8) X dX9_init_185 (by decide +kernel) ?_
  refine j_iload_n (pc := 187) X dX9_init_187 rfl ?_
  refine j_iadd (pc := 188) X dX9_init_188 ?_
  rw [show nI 8 + nI 23 = nI 31 by decide +kernel]
  refine j_iload_n (pc := 189) X dX9_init_189 rfl ?_
  refine j_if_eq (pc := 190) (tgt := 197) X dX9_init_190 (by decide +kernel) (fun _ => ?_) (fun h => absurd (by decide +kernel) h)
  refine j_iload (pc := 197) X dX9_init_197 rfl ?_
  refine j_if_eq (pc := 199) (tgt := 206) X dX9_init_199 (by decide +kernel) (fun _ => ?_) (fun h => absurd (by decide +kernel) h)
  refine j_iload_n (pc := 206) X dX9_init_206 rfl ?_
  refine j_bipush (pc := 207) (v := nI 109) X dX9_init_207 (by decide +kernel) ?_
  refine j_icmp_eq (pc := 209) (tgt := 218) X dX9_init_209 (by decide +kernel) (fun h => absurd h (by decide +kernel)) (fun _ => ?_)
  refine j_iload_n (pc := 212) X dX9_init_212 rfl ?_
  refine j_bipush (pc := 213) (v := nI 119) X dX9_init_213 (by decide +kernel) ?_
  refine j_icmp_ne (pc := 215) (tgt := 223) X dX9_init_215 (by decide +kernel) (fun _ => ?_) (fun h => absurd h (by decide +kernel))
  refine j_iconst (pc := 223) (v := FWt 23) X dX9_init_223 (by decide +kernel) ?_
  refine j_iast (C' := m9s M (8 + 23) (FWt 23)) (pc := 224) X Yw wm1 (vp_in_nI (by decide +kernel) (by decide +kernel)) dX9_init_224 (by rw [nI_clamp (by decide +kernel)]; exact sm1 _) ?_
  refine j_iinc (pc := 225) (v := nI 24) X dX9_init_225 rfl (by decide +kernel) (by decide +kernel) rfl ?_
  refine j_goto (pc := 228) (tgt := 121) X dX9_init_228 (by decide +kernel) ?_
  exact kk _ _ _
theorem m9_24 (X : Kx (gS g 10 3690) cI cS cX9_init RX9 wsX9_init 5 rm) (Yw : Kw (gS g 10 3690) (WM cI am) A) (kk : ∀ o2 o3 o4 : Option Value, J (gS g 10 3690) (WM cI am) 5 (m9s M (8 + 24) (FWt 24)) 121 [some (.ref (am 0)), some (.int (nI 25)), o2, o3, o4] []) : J (gS g 10 3690) (WM cI am) 5 M 121 [some (.ref (am 0)), some (.int (nI 24)), o2, o3, o4] [] := by
  refine j_iload_n (pc := 121) X dX9_init_121 rfl ?_
  refine j_bipush (pc := 122) (v := nI 26) X dX9_init_122 (by decide +kernel) ?_
  refine j_icmp_ge (pc := 124) (tgt := 231) X dX9_init_124 (by decide +kernel) (fun h => absurd h (by decide +kernel)) (fun _ => ?_)
  refine j_iload_n (pc := 127) X dX9_init_127 rfl ?_
  refine j_bipush (pc := 128) (v := nI 97) X dX9_init_128 (by decide +kernel) ?_
  refine j_iadd (pc := 130) X dX9_init_130 ?_
  rw [show nI 24 + nI 97 = nI 121 by decide +kernel]
  refine j_istore_n (pc := 131) X dX9_init_131 (by decide +kernel) rfl ?_
  refine j_iload_n (pc := 132) X dX9_init_132 rfl ?_
  refine j_bipush (pc := 133) (v := nI 105) X dX9_init_133 (by decide +kernel) ?_
  refine j_icmp_eq (pc := 135) (tgt := 150) X dX9_init_135 (by decide +kernel) (fun h => absurd h (by decide +kernel)) (fun _ => ?_)
  refine j_iload_n (pc := 138) X dX9_init_138 rfl ?_
  refine j_bipush (pc := 139) (v := nI 106) X dX9_init_139 (by decide +kernel) ?_
  refine j_icmp_eq (pc := 141) (tgt := 150) X dX9_init_141 (by decide +kernel) (fun h => absurd h (by decide +kernel)) (fun _ => ?_)
  refine j_iload_n (pc := 144) X dX9_init_144 rfl ?_
  refine j_bipush (pc := 145) (v := nI 108) X dX9_init_145 (by decide +kernel) ?_
  refine j_icmp_ne (pc := 147) (tgt := 154) X dX9_init_147 (by decide +kernel) (fun _ => ?_) (fun h => absurd h (by decide +kernel))
  refine j_iconst (pc := 154) (v := nI 0) X dX9_init_154 (by decide +kernel) ?_
  refine j_istore_n (pc := 155) X dX9_init_155 (by decide +kernel) rfl ?_
  refine j_iload_n (pc := 156) X dX9_init_156 rfl ?_
  refine j_bipush (pc := 157) (v := nI 102) X dX9_init_157 (by decide +kernel) ?_
  refine j_icmp_eq (pc := 159) (tgt := 174) X dX9_init_159 (by decide +kernel) (fun h => absurd h (by decide +kernel)) (fun _ => ?_)
  refine j_iload_n (pc := 162) X dX9_init_162 rfl ?_
  refine j_bipush (pc := 163) (v := nI 114) X dX9_init_163 (by decide +kernel) ?_
  refine j_icmp_eq (pc := 165) (tgt := 174) X dX9_init_165 (by decide +kernel) (fun h => absurd h (by decide +kernel)) (fun _ => ?_)
  refine j_iload_n (pc := 168) X dX9_init_168 rfl ?_
  refine j_bipush (pc := 169) (v := nI 116) X dX9_init_169 (by decide +kernel) ?_
  refine j_icmp_ne (pc := 171) (tgt := 178) X dX9_init_171 (by decide +kernel) (fun _ => ?_) (fun h => absurd h (by decide +kernel))
  refine j_iconst (pc := 178) (v := nI 0) X dX9_init_178 (by decide +kernel) ?_
  refine j_istore (pc := 179) X dX9_init_179 (by decide +kernel) rfl ?_
  refine j_aload_n (pc := 181) X dX9_init_181 rfl ?_
  refine j_get (pc := 182) X iwi_X9_init_X9 wm0 rfl 0 (Nat.le_of_ble_eq_true rfl) lki_X9_7 (v := .ref (am 1)) rfl dX9_init_182 ?_
  refine j_bipush (pc := 185) (v := nI 8) X dX9_init_185 (by decide +kernel) ?_
  refine j_iload_n (pc := 187) X dX9_init_187 rfl ?_
  refine j_iadd (pc := 188) X dX9_init_188 ?_
  rw [show nI 8 + nI 24 = nI 32 by decide +kernel]
  refine j_iload_n (pc := 189) X dX9_init_189 rfl ?_
  refine j_if_eq (pc := 190) (tgt := 197) X dX9_init_190 (by decide +kernel) (fun _ => ?_) (fun h => absurd (by decide +kernel) h)
  refine j_iload (pc := 197) X dX9_init_197 rfl ?_
  refine j_if_eq (pc := 199) (tgt := 206) X dX9_init_199 (by decide +kernel) (fun _ => ?_) (fun h => absurd (by decide +kernel) h)
  refine j_iload_n (pc := 206) X dX9_init_206 rfl ?_
  refine j_bipush (pc := 207) (v := nI 109) X dX9_init_207 (by decide +kernel) ?_
  refine j_icmp_eq (pc := 209) (tgt := 218) X dX9_init_209 (by decide +kernel) (fun h => absurd h (by decide +kernel)) (fun _ => ?_)
  refine j_iload_n (pc := 212) X dX9_init_212 rfl ?_
  refine j_bipush (pc := 213) (v := nI 119) X dX9_init_213 (by decide +kernel) ?_
  refine j_icmp_ne (pc := 215) (tgt := 223) X dX9_init_215 (by decide +kernel) (fun _ => ?_) (fun h => absurd h (by decide +kernel))
  refine j_iconst (pc := 223) (v := FWt 24) X dX9_init_223 (by decide +kernel) ?_
  refine j_iast (C' := m9s M (8 + 24) (FWt 24)) (pc := 224) X Yw wm1 (vp_in_nI (by decide +kernel) (by decide +kernel)) dX9_init_224 (by rw [nI_clamp (by decide +kernel)]; exact sm1 _) ?_
  refine j_iinc (pc := 225) (v := nI 25) X dX9_init_225 rfl (by decide +kernel) (by decide +kernel) rfl ?_
  refine j_goto (pc := 228) (tgt := 121) X dX9_init_228 (by decide +kernel) ?_
  exact kk _ _ _
theorem m9_25 (X : Kx (gS g 10 3690) cI cS cX9_init RX9 wsX9_init 5 rm) (Yw : Kw (gS g 10 3690) (WM cI am) A) (kk : ∀ o2 o3 o4 : Option Value, J (gS g 10 3690) (WM cI am) 5 (m9s M (8 + 25) (FWt 25)) 121 [some (.ref (am 0)), some (.int (nI 26)), o2, o3, o4] []) : J (gS g 10 3690) (WM cI am) 5 M 121 [some (.ref (am 0)), some (.int (nI 25)), o2, o3, o4] [] := by
  refine j_iload_n (pc := 121) X dX9_init_121 rfl ?_
  refine j_bipush (pc := 122) (v := nI 26) X dX9_init_122 (by decide +kernel) ?_
  refine j_icmp_ge (pc := 124) (tgt := 231) X dX9_init_124 (by decide +kernel) (fun h => absurd h (by decide +kernel)) (fun _ => ?_)
  refine j_iload_n (pc := 127) X dX9_init_127 rfl ?_
  refine j_bipush (pc := 128) (v := nI 97) X dX9_init_128 (by decide +kernel) ?_
  refine j_iadd (pc := 130) X dX9_init_130 ?_
  rw [show nI 25 + nI 97 = nI 122 by decide +kernel]
  refine j_istore_n (pc := 131) X dX9_init_131 (by decide +kernel) rfl ?_
  refine j_iload_n (pc := 132) X dX9_init_132 rfl ?_
  refine j_bipush (pc := 133) (v := nI 105) X dX9_init_133 (by decide +kernel) ?_
  refine j_icmp_eq (pc := 135) (tgt := 150) X dX9_init_135 (by decide +kernel) (fun h => absurd h (by decide +kernel)) (fun _ => ?_)
  refine j_iload_n (pc := 138) X dX9_init_138 rfl ?_
  refine j_bipush (pc := 139) (v := nI 106) X dX9_init_139 (by decide +kernel) ?_
  refine j_icmp_eq (pc := 141) (tgt := 150) X dX9_init_141 (by decide +kernel) (fun h => absurd h (by decide +kernel)) (fun _ => ?_)
  refine j_iload_n (pc := 144) X dX9_init_144 rfl ?_
  refine j_bipush (pc := 145) (v := nI 108) X dX9_init_145 (by decide +kernel) ?_
  refine j_icmp_ne (pc := 147) (tgt := 154) X dX9_init_147 (by decide +kernel) (fun _ => ?_) (fun h => absurd h (by decide +kernel))
  refine j_iconst (pc := 154) (v := nI 0) X dX9_init_154 (by decide +kernel) ?_
  refine j_istore_n (pc := 155) X dX9_init_155 (by decide +kernel) rfl ?_
  refine j_iload_n (pc := 156) X dX9_init_156 rfl ?_
  refine j_bipush (pc := 157) (v := nI 102) X dX9_init_157 (by decide +kernel) ?_
  refine j_icmp_eq (pc := 159) (tgt := 174) X dX9_init_159 (by decide +kernel) (fun h => absurd h (by decide +kernel)) (fun _ => ?_)
  refine j_iload_n (pc := 162) X dX9_init_162 rfl ?_
  refine j_bipush (pc := 163) (v := nI 114) X dX9_init_163 (by decide +kernel) ?_
  refine j_icmp_eq (pc := 165) (tgt := 174) X dX9_init_165 (by decide +kernel) (fun h => absurd h (by decide +kernel)) (fun _ => ?_)
  refine j_iload_n (pc := 168) X dX9_init_168 rfl ?_
  refine j_bipush (pc := 169) (v := nI 116) X dX9_init_169 (by decide +kernel) ?_
  refine j_icmp_ne (pc := 171) (tgt := 178) X dX9_init_171 (by decide +kernel) (fun _ => ?_) (fun h => absurd h (by decide +kernel))
  refine j_iconst (pc := 178) (v := nI 0) X dX9_init_178 (by decide +kernel) ?_
  refine j_istore (pc := 179) X dX9_init_179 (by decide +kernel) rfl ?_
  refine j_aload_n (pc := 181) X dX9_init_181 rfl ?_
  refine j_get (pc := 182) X iwi_X9_init_X9 wm0 rfl 0 (Nat.le_of_ble_eq_true rfl) lki_X9_7 (v := .ref (am 1)) rfl dX9_init_182 ?_
  refine j_bipush (pc := 185) (v := nI 8) X dX9_init_185 (by decide +kernel) ?_
  refine j_iload_n (pc := 187) X dX9_init_187 rfl ?_
  refine j_iadd (pc := 188) X dX9_init_188 ?_
  rw [show nI 8 + nI 25 = nI 33 by decide +kernel]
  refine j_iload_n (pc := 189) X dX9_init_189 rfl ?_
  refine j_if_eq (pc := 190) (tgt := 197) X dX9_init_190 (by decide +kernel) (fun _ => ?_) (fun h => absurd (by decide +kernel) h)
  refine j_iload (pc := 197) X dX9_init_197 rfl ?_
  refine j_if_eq (pc := 199) (tgt := 206) X dX9_init_199 (by decide +kernel) (fun _ => ?_) (fun h => absurd (by decide +kernel) h)
  refine j_iload_n (pc := 206) X dX9_init_206 rfl ?_
  refine j_bipush (pc := 207) (v := nI 109) X dX9_init_207 (by decide +kernel) ?_
  refine j_icmp_eq (pc := 209) (tgt := 218) X dX9_init_209 (by decide +kernel) (fun h => absurd h (by decide +kernel)) (fun _ => ?_)
  refine j_iload_n (pc := 212) X dX9_init_212 rfl ?_
  refine j_bipush (pc := 213) (v := nI 119) X dX9_init_213 (by decide +kernel) ?_
  refine j_icmp_ne (pc := 215) (tgt := 223) X dX9_init_215 (by decide +kernel) (fun _ => ?_) (fun h => absurd h (by decide +kernel))
  refine j_iconst (pc := 223) (v := FWt 25) X dX9_init_223 (by decide +kernel) ?_
  refine j_iast (C' := m9s M (8 + 25) (FWt 25)) (pc := 224) X Yw wm1 (vp_in_nI (by decide +kernel) (by decide +kernel)) dX9_init_224 (by rw [nI_clamp (by decide +kernel)]; exact sm1 _) ?_
  refine j_iinc (pc := 225) (v := nI 26) X dX9_init_225 rfl (by decide +kernel) (by decide +kernel) rfl ?_
  refine j_goto (pc := 228) (tgt := 121) X dX9_init_228 (by decide +kernel) ?_
  exact kk _ _ _
end M9
