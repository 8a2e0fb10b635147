/-! ===== constructor BlackBarsModel ===== -/
def m9s (M : kS) (j : Nat) (v : Int32) : kS := up1 M 1 (upd (M 1) j v)
def mk9 : Nat → kS
  | 0 => m9s (m9s (m9s (m9s (fun _ _ => 0) 4 (nI 10)) 5 (nI 3)) 6 (nI 3)) 7 (nI 80)
  | k + 1 => m9s (mk9 k) (8 + k) (FWt k)
theorem iwi_X9_init_X9 : ∀ w ∈ u_ws RX9 TX9 15, w ∈ wsX9_init := by decide +kernel
theorem lki_X9_7 : Cond.fieldLink RX9 7 "BlackBarsModel" "s" "[I" ∈ wsX9_init := by decide +kernel
abbrev rmi_X9 : Room := { frames := 1, cells := 10, slots := 3690, locals := 16 }
theorem m9_D {A : Nat → Prop} {cI : ClassId} {am : Nat → Nat} {M : kS} (h : va_D A (WM cI am M)) (M' : kS) : va_D A (WM cI am M') := by
  have e : ∀ (M : kS) (i : Nat) (p : Nat × va_E), (WM cI am M)[i]? = some p → i < 11 ∧ p.1 = am i := by
    intro M i p hp
    have hi : i < 11 := by
      have h1 := (List.getElem?_eq_some_iff.mp hp).1
      simpa [WM] using h1
    rw [WM_at hi] at hp
    cases hp
    exact ⟨hi, rfl⟩
  refine ⟨fun i j p q hp hq hpq => ?_, fun k q hq => ?_⟩
  · obtain ⟨a1, a2⟩ := e M' i p hp
    obtain ⟨b1, b2⟩ := e M' j q hq
    exact h.1 i j _ _ (WM_at a1) (WM_at b1) (by show am i = am j; rw [← a2, ← b2]; exact hpq)
  · obtain ⟨a1, a2⟩ := e M' k q hq
    rw [a2]
    exact h.2 k _ (WM_at a1)
section M9
variable {g : kG} {cI cS : ClassId} {rm : Room} {A : Nat → Prop} {am : Nat → Nat} {M : kS} {o2 o3 o4 : Option Value}
theorem m9_0 (X : Kx (gS g 10 3690) cI cS cX9_init RX9 wsX9_init 5 rm) (Yw : Kw (gS g 10 3690) (WM cI am) A) (kk : ∀ o2 o3 o4 : Option Value, J (gS g 10 3690) (WM cI am) 5 (m9s M (8 + 0) (FWt 0)) 121 [some (.ref (am 0)), some (.int (nI 1)), o2, o3, o4] []) : J (gS g 10 3690) (WM cI am) 5 M 121 [some (.ref (am 0)), some (.int (nI 0)), o2, o3, o4] [] := by
  refine j_iload_n (pc := 121) X dX9_init_121 rfl ?_
  refine j_bipush (pc := 122) (v := nI 26) X dX9_init_122 (by decide +kernel) ?_
  refine j_icmp_ge (pc := 124) (tgt := 231) X dX9_init_124 (by decide +kernel) (fun h => absurd h (by decide +kernel)) (fun _ => ?_)
  refine j_iload_n (pc := 127) X dX9_init_127 rfl ?_
  refine j_bipush (pc := 128) (v := nI 97) X dX9_init_128 (by decide +kernel) ?_
  refine j_iadd (pc := 130) X dX9_init_130 ?_
  rw [show nI 0 + nI 97 = nI 97 by decide +kernel]
  refine j_istore_n (pc := 131) X dX9_init_131 (by decide +kernel) rfl ?_
  refine j_iload_n (pc := 132) X dX9_init_132 rfl ?_
  refine j_bipush (pc := 133) (v := nI 105) X dX9_init_133 (by decide +kernel) ?_
  refine j_icmp_eq (pc := 135) (tgt := 150) X dX9_init_135 (by decide +kernel) (fun h => absurd h (by decide +kernel)) (fun _ => ?_)
  refine j_iload_n (pc := 138) X dX9_init_138 rfl ?_
  refine j_bipush (pc := 139) (v := nI 106) X dX9_init_139 (by decide +kernel) ?_
  refine j_icmp_eq (pc := 141) (tgt := 150) X dX9_init_141 (by decide +kernel) (fun h => absurd h (by decide +kernel)) (fun _ => ?_)
  refine j_iload_n (pc := 144) X dX9_init_144 rfl ?_
  refine j_bipush (pc := 145) (v := nI 108) X dX9_init_145 (by decide +kernel) ?_
  refine j_icmp_ne (pc := 147) (tgt := 154) X dX9_init_147 (by decide +kernel) (fun _ => ?_) (fun h => absurd h (by decide +kernel))
  refine j_iconst (pc := 154) (v := nI 0) X dX9_init_154 (by decide +kernel) ?_
  refine j_istore_n (pc := 155) X dX9_init_155 (by decide +kernel) rfl ?_
  refine j_iload_n (pc := 156) X dX9_init_156 rfl ?_
  refine j_bipush (pc := 157) (v := nI 102) X dX9_init_157 (by decide +kernel) ?_
  refine j_icmp_eq (pc := 159) (tgt := 174) X dX9_init_159 (by decide +kernel) (fun h => absurd h (by decide +kernel)) (fun _ => ?_)
  refine j_iload_n (pc := 162) X dX9_init_162 rfl ?_
  refine j_bipush (pc := 163) (v := nI 114) X dX9_init_163 (by decide +kernel) ?_
  refine j_icmp_eq (pc := 165) (tgt := 174) X dX9_init_165 (by decide +kernel) (fun h => absurd h (by decide +kernel)) (fun _ => ?_)
  refine j_iload_n (pc := 168) X dX9_init_168 rfl ?_
  refine j_bipush (pc := 169) (v := nI 116) X dX9_init_169 (by decide +kernel) ?_
  refine j_icmp_ne (pc := 171) (tgt := 178) X dX9_init_171 (by decide +kernel) (fun _ => ?_) (fun h => absurd h (by decide +kernel))
  refine j_iconst (pc := 178) (v := nI 0) X dX9_init_178 (by decide +kernel) ?_
  refine j_istore (pc := 179) X dX9_init_179 (by decide +kernel) rfl ?_
  refine j_aload_n (pc := 181) X dX9_init_181 rfl ?_
  refine j_get (pc := 182) X iwi_X9_init_X9 wm0 rfl 0 (Nat.le_of_ble_eq_true rfl) lki_X9_7 (v := .ref (am 1)) rfl dX9_init_182 ?_
  refine j_bipush (pc := 185) (v := nI 8) X dX9_init_185 (by decide +kernel) ?_
  refine j_iload_n (pc := 187) X dX9_init_187 rfl ?_
  refine j_iadd (pc := 188) X dX9_init_188 ?_
  rw [show nI 8 + nI 0 = nI 8 by decide +kernel]
  refine j_iload_n (pc := 189) X dX9_init_189 rfl ?_
  refine j_if_eq (pc := 190) (tgt := 197) X dX9_init_190 (by decide +kernel) (fun _ => ?_) (fun h => absurd (by decide +kernel) h)
  refine j_iload (pc := 197) X dX9_init_197 rfl ?_
  refine j_if_eq (pc := 199) (tgt := 206) X dX9_init_199 (by decide +kernel) (fun _ => ?_) (fun h => absurd (by decide +kernel) h)
  refine j_iload_n (pc := 206) X dX9_init_206 rfl ?_
  refine j_bipush (pc := 207) (v := nI 109) X dX9_init_207 (by decide +kernel) ?_
  refine j_icmp_eq (pc := 209) (tgt := 218) X dX9_init_209 (by decide +kernel) (fun h => absurd h (by decide +kernel)) (fun _ => ?_)
  refine j_iload_n (pc := 212) X dX9_init_212 rfl ?_
  refine j_bipush (pc := 213) (v := nI 119) X dX9_init_213 (by decide +kernel) ?_
  refine j_icmp_ne (pc := 215) (tgt := 223) X dX9_init_215 (by decide +kernel) (fun _ => ?_) (fun h => absurd h (by decide +kernel))
  refine j_iconst (pc := 223) (v := FWt 0) X dX9_init_223 (by decide +kernel) ?_
  refine j_iast (C' := m9s M (8 + 0) (FWt 0)) (pc := 224) X Yw wm1 (vp_in_nI (by decide +kernel) (by decide +kernel)) dX9_init_224 (by rw [nI_clamp (by decide +kernel)]; exact sm1 _) ?_
  refine j_iinc (pc := 225) (v := nI 1) X dX9_init_225 rfl (by decide +kernel) (by decide +kernel) rfl ?_
  refine j_goto (pc := 228) (tgt := 121) X dX9_init_228 (by decide +kernel) ?_
  exact kk _ _ _
theorem m9_1 (X : Kx (gS g 10 3690) cI cS cX9_init RX9 wsX9_init 5 rm) (Yw : Kw (gS g 10 3690) (WM cI am) A) (kk : ∀ o2 o3 o4 : Option Value, J (gS g 10 3690) (WM cI am) 5 (m9s M (8 + 1) (FWt 1)) 121 [some (.ref (am 0)), some (.int (nI 2)), o2, o3, o4] []) : J (gS g 10 3690) (WM cI am) 5 M 121 [some (.ref (am 0)), some (.int (nI 1)), o2, o3, o4] [] := by
  refine j_iload_n (pc := 121) X dX9_init_121 rfl ?_
  refine j_bipush (pc := 122) (v := nI 26) X dX9_init_122 (by decide +kernel) ?_
  refine j_icmp_ge (pc := 124) (tgt := 231) X dX9_init_124 (by decide +kernel) (fun h => absurd h (by decide +kernel)) (fun _ => ?_)
  refine j_iload_n (pc := 127) X dX9_init_127 rfl ?_
  refine j_bipush (pc := 128) (v := nI 97) X dX9_init_128 (by decide +kernel) ?_
  refine j_iadd (pc := 130) X dX9_init_130 ?_
  rw [show nI 1 + nI 97 = nI 98 by decide +kernel]
  refine j_istore_n (pc := 131) X dX9_init_131 (by decide +kernel) rfl ?_
  refine j_iload_n (pc := 132) X dX9_init_132 rfl ?_
  refine j_bipush (pc := 133) (v := nI 105) X dX9_init_133 (by decide +kernel) ?_
  refine j_icmp_eq (pc := 135) (tgt := 150) X dX9_init_135 (by decide +kernel) (fun h => absurd h (by decide +kernel)) (fun _ => ?_)
  refine j_iload_n (pc := 138) X dX9_init_138 rfl ?_
  refine j_bipush (pc := 139) (v := nI 106) X dX9_init_139 (by decide +kernel) ?_
  refine j_icmp_eq (pc := 141) (tgt := 150) X dX9_init_141 (by decide +kernel) (fun h => absurd h (by decide +kernel)) (fun _ => ?_)
  refine j_iload_n (pc := 144) X dX9_init_144 rfl ?_
  refine j_bipush (pc := 145) (v := nI 108) X dX9_init_145 (by decide +kernel) ?_
  refine j_icmp_ne (pc := 147) (tgt := 154) X dX9_init_147 (by decide +kernel) (fun _ => ?_) (fun h => absurd h (by decide +kernel))
  refine j_iconst (pc := 154) (v := nI 0) X dX9_init_154 (by decide +kernel) ?_
  refine j_istore_n (pc := 155) X dX9_init_155 (by decide +kernel) rfl ?_
  refine j_iload_n (pc := 156) X dX9_init_156 rfl ?_
  refine j_bipush (pc := 157) (v := nI 102) X dX9_init_157 (by decide +kernel) ?_
  refine j_icmp_eq (pc := 159) (tgt := 174) X dX9_init_159 (by decide +kernel) (fun h => absurd h (by decide +kernel)) (fun _ => ?_)
  refine j_iload_n (pc := 162) X dX9_init_162 rfl ?_
  refine j_bipush (pc := 163) (v := nI 114) X dX9_init_163 (by decide +kernel) ?_
  refine j_icmp_eq (pc := 165) (tgt := 174) X dX9_init_165 (by decide +kernel) (fun h => absurd h (by decide +kernel)) (fun _ => ?_)
  refine j_iload_n (pc := 168) X dX9_init_168 rfl ?_
  refine j_bipush (pc := 169) (v := nI 116) X dX9_init_169 (by decide +kernel) ?_
  refine j_icmp_ne (pc := 171) (tgt := 178) X dX9_init_171 (by decide +kernel) (fun _ => ?_) (fun h => absurd h (by decide +kernel))
  refine j_iconst (pc := 178) (v := nI 0) X dX9_init_178 (by decide +kernel) ?_
  refine j_istore (pc := 179) X dX9_init_179 (by decide +kernel) rfl ?_
  refine j_aload_n (pc := 181) X dX9_init_181 rfl ?_
  refine j_get (pc := 182) X iwi_X9_init_X9 wm0 rfl 0 (Nat.le_of_ble_eq_true rfl) lki_X9_7 (v := .ref (am 1)) rfl dX9_init_182 ?_
  refine j_bipush (pc := 185) (v := nI 8) X dX9_init_185 (by decide +kernel) ?_
  refine j_iload_n (pc := 187) X dX9_init_187 rfl ?_
  refine j_iadd (pc := 188) X dX9_init_188 ?_
  rw [show nI 8 + nI 1 = nI 9 by decide +kernel]
  refine j_iload_n (pc := 189) X dX9_init_189 rfl ?_
  refine j_if_eq (pc := 190) (tgt := 197) X dX9_init_190 (by decide +kernel) (fun _ => ?_) (fun h => absurd (by decide +kernel) h)
  refine j_iload (pc := 197) X dX9_init_197 rfl ?_
  refine j_if_eq (pc := 199) (tgt := 206) X dX9_init_199 (by decide +kernel) (fun _ => ?_) (fun h => absurd (by decide +kernel) h)
  refine j_iload_n (pc := 206) X dX9_init_206 rfl ?_
  refine j_bipush (pc := 207) (v := nI 109) X dX9_init_207 (by decide +kernel) ?_
  refine j_icmp_eq (pc := 209) (tgt := 218) X dX9_init_209 (by decide +kernel) (fun h => absurd h (by decide +kernel)) (fun _ => ?_)
  refine j_iload_n (pc := 212) X dX9_init_212 rfl ?_
  refine j_bipush (pc := 213) (v := nI 119) X dX9_init_213 (by decide +kernel) ?_
  refine j_icmp_ne (pc := 215) (tgt := 223) X dX9_init_215 (by decide +kernel) (fun _ => ?_) (fun h => absurd h (by decide +kernel))
  refine j_iconst (pc := 223) (v := FWt 1) X dX9_init_223 (by decide +kernel) ?_
  refine j_iast (C' := m9s M (8 + 1) (FWt 1)) (pc := 224) X Yw wm1 (vp_in_nI (by decide +kernel) (by decide +kernel)) dX9_init_224 (by rw [nI_clamp (by decide +kernel)]; exact sm1 _) ?_
  refine j_iinc (pc := 225) (v := nI 2) X dX9_init_225 rfl (by decide +kernel) (by decide +kernel) rfl ?_
  refine j_goto (pc := 228) (tgt := 121) X dX9_init_228 (by decide +kernel) ?_
  exact kk _ _ _
theorem m9_2 (X : Kx (gS g 10 3690) cI cS cX9_init RX9 wsX9_init 5 rm) (Yw : Kw (gS g 10 3690) (WM cI am) A) (kk : ∀ o2 o3 o4 : Option Value, J (gS g 10 3690) (WM cI am) 5 (m9s M (8 + 2) (FWt 2)) 121 [some (.ref (am 0)), some (.int (nI 3)), o2, o3, o4] []) : J (gS g 10 3690) (WM cI am) 5 M 121 [some (.ref (am 0)), some (.int (nI 2)), o2, o3, o4] [] := by
  refine j_iload_n (pc := 121) X dX9_init_121 rfl ?_
  refine j_bipush (pc := 122) (v := nI 26) X dX9_init_122 (by decide +kernel) ?_
  refine j_icmp_ge (pc := 124) (tgt := 231) X dX9_init_124 (by decide +kernel) (fun h => absurd h (by decide +kernel)) (fun _ => ?_)
  refine j_iload_n (pc := 127) X dX9_init_127 rfl ?_
  refine j_bipush (pc := 128) (v := nI 97) X dX9_init_128 (by decide +kernel) ?_
  refine j_iadd (pc := 130) X dX9_init_130 ?_
  rw [show nI 2 + nI 97 = nI 99 by decide +kernel]
  refine j_istore_n (pc := 131) X dX9_init_131 (by decide +kernel) rfl ?_
  refine j_iload_n (pc := 132) X dX9_init_132 rfl ?_
  refine j_bipush (pc := 133) (v := nI 105) X dX9_init_133 (by decide +kernel) ?_
  refine j_icmp_eq (pc := 135) (tgt := 150) X dX9_init_135 (by decide +kernel) (fun h => absurd h (by decide +kernel)) (fun _ => ?_)
  refine j_iload_n (pc := 138) X dX9_init_138 rfl ?_
  refine j_bipush (pc := 139) (v := nI 106) X dX9_init_139 (by decide +kernel) ?_
  refine j_icmp_eq (pc := 141) (tgt := 150) X dX9_init_141 (by decide +kernel) (fun h => absurd h (by decide +kernel)) (fun _ => ?_)
  refine j_iload_n (pc := 144) X dX9_init_144 rfl ?_
  refine j_bipush (pc := 145) (v := nI 108) X dX9_init_145 (by decide +kernel) ?_
  refine j_icmp_ne (pc := 147) (tgt := 154) X dX9_init_147 (by decide +kernel) (fun _ => ?_) (fun h => absurd h (by decide +kernel))
  refine j_iconst (pc := 154) (v := nI 0) X dX9_init_154 (by decide +kernel) ?_
  refine j_istore_n (pc := 155) X dX9_init_155 (by decide +kernel) rfl ?_
  refine j_iload_n (pc := 156) X dX9_init_156 rfl ?_
  refine j_bipush (pc := 157) (v := nI 102) X dX9_init_157 (by decide +kernel) ?_
  refine j_icmp_eq (pc := 159) (tgt := 174) X dX9_init_159 (by decide +kernel) (fun h => absurd h (by decide +kernel)) (fun _ => ?_)
  refine j_iload_n (pc := 162) X dX9_init_162 rfl ?_
  refine j_bipush (pc := 163) (v := nI 114) X dX9_init_163 (by decide +kernel) ?_
  refine j_icmp_eq (pc := 165) (tgt := 174) X dX9_init_165 (by decide +kernel) (fun h => absurd h (by decide +kernel)) (fun _ => ?_)
  refine j_iload_n (pc := 168) X dX9_init_168 rfl ?_
  refine j_bipush (pc := 169) (v := nI 116) X dX9_init_169 (by decide +kernel) ?_
  refine j_icmp_ne (pc := 171) (tgt := 178) X dX9_init_171 (by decide +kernel) (fun _ => ?_) (fun h => absurd h (by decide +kernel))
  refine j_iconst (pc := 178) (v := nI 0) X dX9_init_178 (by decide +kernel) ?_
  refine j_istore (pc := 179) X dX9_init_179 (by decide +kernel) rfl ?_
  refine j_aload_n (pc := 181) X dX9_init_181 rfl ?_
  refine j_get (pc := 182) X iwi_X9_init_X9 wm0 rfl 0 (Nat.le_of_ble_eq_true rfl) lki_X9_7 (v := .ref (am 1)) rfl dX9_init_182 ?_
  refine j_bipush (pc := 185) (v := nI 8) X dX9_init_185 (by decide +kernel) ?_
  refine j_iload_n (pc := 187) X dX9_init_187 rfl ?_
  refine j_iadd (pc := 188) X dX9_init_188 ?_
  rw [show nI 8 + nI 2 = nI 10 by decide +kernel]
  refine j_iload_n (pc := 189) X dX9_init_189 rfl ?_
  refine j_if_eq (pc := 190) (tgt := 197) X dX9_init_190 (by decide +kernel) (fun _ => ?_) (fun h => absurd (by decide +kernel) h)
  refine j_iload (pc := 197) X dX9_init_197 rfl ?_
  refine j_if_eq (pc := 199) (tgt := 206) X dX9_init_199 (by decide +kernel) (fun _ => ?_) (fun h => absurd (by decide +kernel) h)
  refine j_iload_n (pc := 206) X dX9_init_206 rfl ?_
  refine j_bipush (pc := 207) (v := nI 109) X dX9_init_207 (by decide +kernel) ?_
  refine j_icmp_eq (pc := 209) (tgt := 218) X dX9_init_209 (by decide +kernel) (fun h => absurd h (by decide +kernel)) (fun _ => ?_)
  refine j_iload_n (pc := 212) X dX9_init_212 rfl ?_
  refine j_bipush (pc := 213) (v := nI 119) X dX9_init_213 (by decide +kernel) ?_
  refine j_icmp_ne (pc := 215) (tgt := 223) X dX9_init_215 (by decide +kernel) (fun _ => ?_) (fun h => absurd h (by decide +kernel))
  refine j_iconst (pc := 223) (v := FWt 2) X dX9_init_223 (by decide +kernel) ?_
  refine j_iast (C' := m9s M (8 + 2) (FWt 2)) (pc := 224) X Yw wm1 (vp_in_nI (by decide +kernel) (by decide +kernel)) dX9_init_224 (by rw [nI_clamp (by decide +kernel)]; exact sm1 _) ?_
  refine j_iinc (pc := 225) (v := nI 3) X dX9_init_225 rfl (by decide +kernel) (by decide +kernel) rfl ?_
  refine j_goto (pc := 228) (tgt := 121) X dX9_init_228 (by decide +kernel) ?_
  exact kk _ _ _
theorem m9_3 (X : Kx (gS g 10 3690) cI cS cX9_init RX9 wsX9_init 5 rm) (Yw : Kw (gS g 10 3690) (WM cI am) A) (kk : ∀ o2 o3 o4 : Option Value, J (gS g 10 3690) (WM cI am) 5 (m9s M (8 + 3) (FWt 3)) 121 [some (.ref (am 0)), some (.int (nI 4)), o2, o3, o4] []) : J (gS g 10 3690) (WM cI am) 5 M 121 [some (.ref (am 0)), some (.int (nI 3)), o2, o3, o4] [] := by
  refine j_iload_n (pc := 121) X dX9_init_121 rfl ?_
  refine j_bipush (pc := 122) (v := nI 26) X dX9_init_122 (by decide +kernel) ?_
  refine j_icmp_ge (pc := 124) (tgt := 231) X dX9_init_124 (by decide +kernel) (fun h => absurd h (by decide +kernel)) (fun _ => ?_)
  refine j_iload_n (pc := 127) X dX9_init_127 rfl ?_
  refine j_bipush (pc := 128) (v := nI 97) X dX9_init_128 (by decide +kernel) ?_
  refine j_iadd (pc := 130) X dX9_init_130 ?_
  rw [show nI 3 + nI 97 = nI 100 by decide +kernel]
  refine j_istore_n (pc := 131) X dX9_init_131 (by decide +kernel) rfl ?_
  refine j_iload_n (pc := 132) X dX9_init_132 rfl ?_
  refine j_bipush (pc := 133) (v := nI 105) X dX9_init_133 (by decide +kernel) ?_
  refine j_icmp_eq (pc := 135) (tgt := 150) X dX9_init_135 (by decide +kernel) (fun h => absurd h (by decide +kernel)) (fun _ => ?_)
  refine j_iload_n (pc := 138) X dX9_init_138 rfl ?_
  refine j_bipush (pc := 139) (v := nI 106) X dX9_init_139 (by decide +kernel) ?_
  refine j_icmp_eq (pc := 141) (tgt := 150) X dX9_init_141 (by decide +kernel) (fun h => absurd h (by decide +kernel)) (fun _ => ?_)
  refine j_iload_n (pc := 144) X dX9_init_144 rfl ?_
  refine j_bipush (pc := 145) (v := nI 108) X dX9_init_145 (by decide +kernel) ?_
  refine j_icmp_ne (pc := 147) (tgt := 154) X dX9_init_147 (by decide +kernel) (fun _ => ?_) (fun h => absurd h (by decide +kernel))
  refine j_iconst (pc := 154) (v := nI 0) X dX9_init_154 (by decide +kernel) ?_
  refine j_istore_n (pc := 155) X dX9_init_155 (by decide +kernel) rfl ?_
  refine j_iload_n (pc := 156) X dX9_init_156 rfl ?_
  refine j_bipush (pc := 157) (v := nI 102) X dX9_init_157 (by decide +kernel) ?_
  refine j_icmp_eq (pc := 159) (tgt := 174) X dX9_init_159 (by decide +kernel) (fun h => absurd h (by decide +kernel)) (fun _ => ?_)
  refine j_iload_n (pc := 162) X dX9_init_162 rfl ?_
  refine j_bipush (pc := 163) (v := nI 114) X dX9_init_163 (by decide +kernel) ?_
  refine j_icmp_eq (pc := 165) (tgt := 174) X dX9_init_165 (by decide +kernel) (fun h => absurd h (by decide +kernel)) (fun _ => ?_)
  refine j_iload_n (pc := 168) X dX9_init_168 rfl ?_
  refine j_bipush (pc := 169) (v := nI 116) X dX9_init_169 (by decide +kernel) ?_
  refine j_icmp_ne (pc := 171) (tgt := 178) X dX9_init_171 (by decide +kernel) (fun _ => ?_) (fun h => absurd h (by decide +kernel))
  refine j_iconst (pc := 178) (v := nI 0) X dX9_init_178 (by decide +kernel) ?_
  refine j_istore (pc := 179) X dX9_init_179 (by decide +kernel) rfl ?_
  refine j_aload_n (pc := 181) X dX9_init_181 rfl ?_
  refine j_get (pc := 182) X iwi_X9_init_X9 wm0 rfl 0 (Nat.le_of_ble_eq_true rfl) lki_X9_7 (v := .ref (am 1)) rfl dX9_init_182 ?_
  refine j_bipush (pc := 185) (v := nI 8) X dX9_init_185 (by decide +kernel) ?_
  refine j_iload_n (pc := 187) X dX9_init_187 rfl ?_
  refine j_iadd (pc := 188) X dX9_init_188 ?_
  rw [show nI 8 + nI 3 = nI 11 by decide +kernel]
  refine j_iload_n (pc := 189) X dX9_init_189 rfl ?_
  refine j_if_eq (pc := 190) (tgt := 197) X dX9_init_190 (by decide +kernel) (fun _ => ?_) (fun h => absurd (by decide +kernel) h)
  refine j_iload (pc := 197) X dX9_init_197 rfl ?_
  refine j_if_eq (pc := 199) (tgt := 206) X dX9_init_199 (by decide +kernel) (fun _ => ?_) (fun h => absurd (by decide +kernel) h)
  refine j_iload_n (pc := 206) X dX9_init_206 rfl ?_
  refine j_bipush (pc := 207) (v := nI 109) X dX9_init_207 (by decide +kernel) ?_
  refine j_icmp_eq (pc := 209) (tgt := 218) X dX9_init_209 (by decide +kernel) (fun h => absurd h (by decide +kernel)) (fun _ => ?_)
  refine j_iload_n (pc := 212) X dX9_init_212 rfl ?_
  refine j_bipush (pc := 213) (v := nI 119) X dX9_init_213 (by decide +kernel) ?_
  refine j_icmp_ne (pc := 215) (tgt := 223) X dX9_init_215 (by decide +kernel) (fun _ => ?_) (fun h => absurd h (by decide +kernel))
  refine j_iconst (pc := 223) (v := FWt 3) X dX9_init_223 (by decide +kernel) ?_
  refine j_iast (C' := m9s M (8 + 3) (FWt 3)) (pc := 224) X Yw wm1 (vp_in_nI (by decide +kernel) (by decide +kernel)) dX9_init_224 (by rw [nI_clamp (by decide +kernel)]; exact sm1 _) ?_
  refine j_iinc (pc := 225) (v := nI 4) X dX9_init_225 rfl (by decide +kernel) (by decide +kernel) rfl ?_
  refine j_goto (pc := 228) (tgt := 121) X dX9_init_228 (by decide +kernel) ?_
  exact kk _ _ _
theorem m9_4 (X : Kx (gS g 10 3690) cI cS cX9_init RX9 wsX9_init 5 rm) (Yw : Kw (gS g 10 3690) (WM cI am) A) (kk : ∀ o2 o3 o4 : Option Value, J (gS g 10 3690) (WM cI am) 5 (m9s M (8 + 4) (FWt 4)) 121 [some (.ref (am 0)), some (.int (nI 5)), o2, o3, o4] []) : J (gS g 10 3690) (WM cI am) 5 M 121 [some (.ref (am 0)), some (.int (nI 4)), o2, o3, o4] [] := by
  refine j_iload_n (pc := 121) X dX9_init_121 rfl ?_
  refine j_bipush (pc := 122) (v := nI 26) X dX9_init_122 (by decide +kernel) ?_
  refine j_icmp_ge (pc := 124) (tgt := 231) X dX9_init_124 (by decide +kernel) (fun h => absurd h (by decide +kernel)) (fun _ => ?_)
  refine j_iload_n (pc := 127) X dX9_init_127 rfl ?_
  refine j_bipush (pc := 128) (v := nI 97) X dX9_init_128 (by decide +kernel) ?_
  refine j_iadd (pc := 130) X dX9_init_130 ?_
  rw [show nI 4 + nI 97 = nI 101 by decide +kernel]
  refine j_istore_n (pc := 131) X dX9_init_131 (by decide +kernel) rfl ?_
  refine j_iload_n (pc := 132) X dX9_init_132 rfl ?_
  refine j_bipush (pc := 133) (v := nI 105) X dX9_init_133 (by decide +kernel) ?_
  refine j_icmp_eq (pc := 135) (tgt := 150) X dX9_init_135 (by decide +kernel) (fun h => absurd h (by decide +kernel)) (fun _ => ?_)
  refine j_iload_n (pc := 138) X dX9_init_138 rfl ?_
  refine j_bipush (pc := 139) (v := nI 106) X dX9_init_139 (by decide +kernel) ?_
  refine j_icmp_eq (pc := 141) (tgt := 150) X dX9_init_141 (by decide +kernel) (fun h => absurd h (by decide +kernel)) (fun _ => ?_)
  refine j_iload_n (pc := 144) X dX9_init_144 rfl ?_
  refine j_bipush (pc := 145) (v := nI 108) X dX9_init_145 (by decide +kernel) ?_
  refine j_icmp_ne (pc := 147) (tgt := 154) X dX9_init_147 (by decide +kernel) (fun _ => ?_) (fun h => absurd h (by decide +kernel))
  refine j_iconst (pc := 154) (v := nI 0) X dX9_init_154 (by decide +kernel) ?_
  refine j_istore_n (pc := 155) X dX9_init_155 (by decide +kernel) rfl ?_
  refine j_iload_n (pc := 156) X dX9_init_156 rfl ?_
  refine j_bipush (pc := 157) (v := nI 102) X dX9_init_157 (by decide +kernel) ?_
  refine j_icmp_eq (pc := 159) (tgt := 174) X dX9_init_159 (by decide +kernel) (fun h => absurd h (by decide +kernel)) (fun _ => ?_)
  refine j_iload_n (pc := 162) X dX9_init_162 rfl ?_
  refine j_bipush (pc := 163) (v := nI 114) X dX9_init_163 (by decide +kernel) ?_
  refine j_icmp_eq (pc := 165) (tgt := 174) X dX9_init_165 (by decide +kernel) (fun h => absurd h (by decide +kernel)) (fun _ => ?_)
  refine j_iload_n (pc := 168) X dX9_init_168 rfl ?_
  refine j_bipush (pc := 169) (v := nI 116) X dX9_init_169 (by decide +kernel) ?_
  refine j_icmp_ne (pc := 171) (tgt := 178) X dX9_init_171 (by decide +kernel) (fun _ => ?_) (fun h => absurd h (by decide +kernel))
  refine j_iconst (pc := 178) (v := nI 0) X dX9_init_178 (by decide +kernel) ?_
  refine j_istore (pc := 179) X dX9_init_179 (by decide +kernel) rfl ?_
  refine j_aload_n (pc := 181) X dX9_init_181 rfl ?_
  refine j_get (pc := 182) X iwi_X9_init_X9 wm0 rfl 0 (Nat.le_of_ble_eq_true rfl) lki_X9_7 (v := .ref (am 1)) rfl dX9_init_182 ?_
  refine j_bipush (pc := 185) (v := nI 8) X dX9_init_185 (by decide +kernel) ?_
  refine j_iload_n (pc := 187) X dX9_init_187 rfl ?_
  refine j_iadd (pc := 188) X dX9_init_188 ?_
  rw [show nI 8 + nI 4 = nI 12 by decide +kernel]
  refine j_iload_n (pc := 189) X dX9_init_189 rfl ?_
  refine j_if_eq (pc := 190) (tgt := 197) X dX9_init_190 (by decide +kernel) (fun _ => ?_) (fun h => absurd (by decide +kernel) h)
  refine j_iload (pc := 197) X dX9_init_197 rfl ?_
  refine j_if_eq (pc := 199) (tgt := 206) X dX9_init_199 (by decide +kernel) (fun _ => ?_) (fun h => absurd (by decide +kernel) h)
  refine j_iload_n (pc := 206) X dX9_init_206 rfl ?_
  refine j_bipush (pc := 207) (v := nI 109) X dX9_init_207 (by decide +kernel) ?_
  refine j_icmp_eq (pc := 209) (tgt := 218) X dX9_init_209 (by decide +kernel) (fun h => absurd h (by decide +kernel)) (fun _ => ?_)
  refine j_iload_n (pc := 212) X dX9_init_212 rfl ?_
  refine j_bipush (pc := 213) (v := nI 119) X dX9_init_213 (by decide +kernel) ?_
  refine j_icmp_ne (pc := 215) (tgt := 223) X dX9_init_215 (by decide +kernel) (fun _ => ?_) (fun h => absurd h (by decide +kernel))
  refine j_iconst (pc := 223) (v := FWt 4) X dX9_init_223 (by decide +kernel) ?_
  refine j_iast (C' := m9s M (8 + 4) (FWt 4)) (pc := 224) X Yw wm1 (vp_in_nI (by decide +kernel) (by decide +kernel)) dX9_init_224 (by rw [nI_clamp (by decide +kernel)]; exact sm1 _) ?_
  refine j_iinc (pc := 225) (v := nI 5) X dX9_init_225 rfl (by decide +kernel) (by decide +kernel) rfl ?_
  refine j_goto (pc := 228) (tgt := 121) X dX9_init_228 (by decide +kernel) ?_
  exact kk _ _ _
theorem m9_5 (X : Kx (gS g 10 3690) cI cS cX9_init RX9 wsX9_init 5 rm) (Yw : Kw (gS g 10 3690) (WM cI am) A) (kk : ∀ o2 o3 o4 : Option Value, J (gS g 10 3690) (WM cI am) 5 (m9s M (8 + 5) (FWt 5)) 121 [some (.ref (am 0)), some (.int (nI 6)), o2, o3, o4] []) : J (gS g 10 3690) (WM cI am) 5 M 121 [some (.ref (am 0)), some (.int (nI 5)), o2, o3, o4] [] := by
  refine j_iload_n (pc := 121) X dX9_init_121 rfl ?_
  refine j_bipush (pc := 122) (v := nI 26) X dX9_init_122 (by decide +kernel) ?_
  refine j_icmp_ge (pc := 124) (tgt := 231) X dX9_init_124 (by decide +kernel) (fun h => absurd h (by decide +kernel)) (fun _ => ?_)
  refine j_iload_n (pc := 127) X dX9_init_127 rfl ?_
  refine j_bipush (pc := 128) (v := nI 97) X dX9_init_128 (by decide +kernel) ?_
  refine j_iadd (pc := 130) X dX9_init_130 ?_
  rw [show nI 5 + nI 97 = nI 102 by decide +kernel]
  refine j_istore_n (pc := 131) X dX9_init_131 (by decide +kernel) rfl ?_
  refine j_iload_n (pc := 132) X dX9_init_132 rfl ?_
  refine j_bipush (pc := 133) (v := nI 105) X dX9_init_133 (by decide +kernel) ?_
  refine j_icmp_eq (pc := 135) (tgt := 150) X dX9_init_135 (by decide +kernel) (fun h => absurd h (by decide +kernel)) (fun _ => ?_)
  refine j_iload_n (pc := 138) X dX9_init_138 rfl ?_
  refine j_bipush (pc := 139) (v := nI 106) X dX9_init_139 (by decide +kernel) ?_
  refine j_icmp_eq (pc := 141) (tgt := 150) X dX9_init_141 (by decide +kernel) (fun h => absurd h (by decide +kernel)) (fun _ => ?_)
  refine j_iload_n (pc := 144) X dX9_init_144 rfl ?_
  refine j_bipush (pc := 145) (v := nI 108) X dX9_init_145 (by decide +kernel) ?_
  refine j_icmp_ne (pc := 147) (tgt := 154) X dX9_init_147 (by decide +kernel) (fun _ => ?_) (fun h => absurd h (by decide +kernel))
  refine j_iconst (pc := 154) (v := nI 0) X dX9_init_154 (by decide +kernel) ?_
  refine j_istore_n (pc := 155) X dX9_init_155 (by decide +kernel) rfl ?_
  refine j_iload_n (pc := 156) X dX9_init_156 rfl ?_
  refine j_bipush (pc := 157) (v := nI 102) X dX9_init_157 (by decide +kernel) ?_
  refine j_icmp_eq (pc := 159) (tgt := 174) X dX9_init_159 (by decide +kernel) (fun _ => ?_) (fun h => absurd (by decide +kernel) h)
  refine j_iconst (pc := 174) (v := nI 1) X dX9_init_174 (by decide +kernel) ?_
  refine j_goto (pc := 175) (tgt := 179) X dX9_init_175 (by decide +kernel) ?_
  refine j_istore (pc := 179) X dX9_init_179 (by decide +kernel) rfl ?_
  refine j_aload_n (pc := 181) X dX9_init_181 rfl ?_
  refine j_get (pc := 182) X iwi_X9_init_X9 wm0 rfl 0 (Nat.le_of_ble_eq_true rfl) lki_X9_7 (v := .ref (am 1)) rfl dX9_init_182 ?_
  refine j_bipush (pc := 185) (v := nI 8) X dX9_init_185 (by decide +kernel) ?_
  refine j_iload_n (pc := 187) X dX9_init_187 rfl ?_
  refine j_iadd (pc := 188) X dX9_init_188 ?_
  rw [show nI 8 + nI 5 = nI 13 by decide +kernel]
  refine j_iload_n (pc := 189) X dX9_init_189 rfl ?_
  refine j_if_eq (pc := 190) (tgt := 197) X dX9_init_190 (by decide +kernel) (fun _ => ?_) (fun h => absurd (by decide +kernel) h)
  refine j_iload (pc := 197) X dX9_init_197 rfl ?_
  refine j_if_eq (pc := 199) (tgt := 206) X dX9_init_199 (by decide +kernel) (fun h => absurd h (by decide +kernel)) (fun _ => ?_)
  refine j_iconst (pc := 202) (v := FWt 5) X dX9_init_202 (by decide +kernel) ?_
  refine j_goto (pc := 203) (tgt := 224) X dX9_init_203 (by decide +kernel) ?_
  refine j_iast (C' := m9s M (8 + 5) (FWt 5)) (pc := 224) X Yw wm1 (vp_in_nI (by decide +kernel) (by decide +kernel)) dX9_init_224 (by rw [nI_clamp (by decide +kernel)]; exact sm1 _) ?_
  refine j_iinc (pc := 225) (v := nI 6) X dX9_init_225 rfl (by decide +kernel) (by decide +kernel) rfl ?_
  refine j_goto (pc := 228) (tgt := 121) X dX9_init_228 (by decide +kernel) ?_
  exact kk _ _ _
theorem m9_6 (X : Kx (gS g 10 3690) cI cS cX9_init RX9 wsX9_init 5 rm) (Yw : Kw (gS g 10 3690) (WM cI am) A) (kk : ∀ o2 o3 o4 : Option Value, J (gS g 10 3690) (WM cI am) 5 (m9s M (8 + 6) (FWt 6)) 121 [some (.ref (am 0)), some (.int (nI 7)), o2, o3, o4] []) : J (gS g 10 3690) (WM cI am) 5 M 121 [some (.ref (am 0)), some (.int (nI 6)), o2, o3, o4] [] := by
  refine j_iload_n (pc := 121) X dX9_init_121 rfl ?_
  refine j_bipush (pc := 122) (v := nI 26) X dX9_init_122 (by decide +kernel) ?_
  refine j_icmp_ge (pc := 124) (tgt := 231) X dX9_init_124 (by decide +kernel) (fun h => absurd h (by decide +kernel)) (fun _ => ?_)
  refine j_iload_n (pc := 127) X dX9_init_127 rfl ?_
  refine j_bipush (pc := 128) (v := nI 97) X dX9_init_128 (by decide +kernel) ?_
  refine j_iadd (pc := 130) X dX9_init_130 ?_
  rw [show nI 6 + nI 97 = nI 103 by decide +kernel]
  refine j_istore_n (pc := 131) X dX9_init_131 (by decide +kernel) rfl ?_
  refine j_iload_n (pc := 132) X dX9_init_132 rfl ?_
  refine j_bipush (pc := 133) (v := nI 105) X dX9_init_133 (by decide +kernel) ?_
  refine j_icmp_eq (pc := 135) (tgt := 150) X dX9_init_135 (by decide +kernel) (fun h => absurd h (by decide +kernel)) (fun _ => ?_)
  refine j_iload_n (pc := 138) X dX9_init_138 rfl ?_
  refine j_bipush (pc := 139) (v := nI 106) X dX9_init_139 (by decide +kernel) ?_
  refine j_icmp_eq (pc := 141) (tgt := 150) X dX9_init_141 (by decide +kernel) (fun h => absurd h (by decide +kernel)) (fun _ => ?_)
  refine j_iload_n (pc := 144) X dX9_init_144 rfl ?_
  refine j_bipush (pc := 145) (v := nI 108) X dX9_init_145 (by decide +kernel) ?_
  refine j_icmp_ne (pc := 147) (tgt := 154) X dX9_init_147 (by decide +kernel) (fun _ => ?_) (fun h => absurd h (by decide +kernel))
  refine j_iconst (pc := 154) (v := nI 0) X dX9_init_154 (by decide +kernel) ?_
  refine j_istore_n (pc := 155) X dX9_init_155 (by decide +kernel) rfl ?_
  refine j_iload_n (pc := 156) X dX9_init_156 rfl ?_
  refine j_bipush (pc := 157) (v := nI 102) X dX9_init_157 (by decide +kernel) ?_
  refine j_icmp_eq (pc := 159) (tgt := 174) X dX9_init_159 (by decide +kernel) (fun h => absurd h (by decide +kernel)) (fun _ => ?_)
  refine j_iload_n (pc := 162) X dX9_init_162 rfl ?_
  refine j_bipush (pc := 163) (v := nI 114) X dX9_init_163 (by decide +kernel) ?_
  refine j_icmp_eq (pc := 165) (tgt := 174) X dX9_init_165 (by decide +kernel) (fun h => absurd h (by decide +kernel)) (fun _ => ?_)
  refine j_iload_n (pc := 168) X dX9_init_168 rfl ?_
  refine j_bipush (pc := 169) (v := nI 116) X dX9_init_169 (by decide +kernel) ?_
  refine j_icmp_ne (pc := 171) (tgt := 178) X dX9_init_171 (by decide +kernel) (fun _ => ?_) (fun h => absurd h (by decide +kernel))
  refine j_iconst (pc := 178) (v := nI 0) X dX9_init_178 (by decide +kernel) ?_
  refine j_istore (pc := 179) X dX9_init_179 (by decide +kernel) rfl ?_
  refine j_aload_n (pc := 181) X dX9_init_181 rfl ?_
  refine j_get (pc := 182) X iwi_X9_init_X9 wm0 rfl 0 (Nat.le_of_ble_eq_true rfl) lki_X9_7 (v := .ref (am 1)) rfl dX9_init_182 ?_
  refine j_bipush (pc := 185) (v := nI 8) X dX9_init_185 (by decide +kernel) ?_
  refine j_iload_n (pc := 187) X dX9_init_187 rfl ?_
  refine j_iadd (pc := 188) X dX9_init_188 ?_
  rw [show nI 8 + nI 6 = nI 14 by decide +kernel]
  refine j_iload_n (pc := 189) X dX9_init_189 rfl ?_
  refine j_if_eq (pc := 190) (tgt := 197) X dX9_init_190 (by decide +kernel) (fun _ => ?_) (fun h => absurd (by decide +kernel) h)
  refine j_iload (pc := 197) X dX9_init_197 rfl ?_
  refine j_if_eq (pc := 199) (tgt := 206) X dX9_init_199 (by decide +kernel) (fun _ => ?_) (fun h => absurd (by decide +kernel) h)
  refine j_iload_n (pc := 206) X dX9_init_206 rfl ?_
  refine j_bipush (pc := 207) (v := nI 109) X dX9_init_207 (by decide +kernel) ?_
  refine j_icmp_eq (pc := 209) (tgt := 218) X dX9_init_209 (by decide +kernel) (fun h => absurd h (by decide +kernel)) (fun _ => ?_)
  refine j_iload_n (pc := 212) X dX9_init_212 rfl ?_
  refine j_bipush (pc := 213) (v := nI 119) X dX9_init_213 (by decide +kernel) ?_
  refine j_icmp_ne (pc := 215) (tgt := 223) X dX9_init_215 (by decide +kernel) (fun _ => ?_) (fun h => absurd h (by decide +kernel))
  refine j_iconst (pc := 223) (v := FWt 6) X dX9_init_223 (by decide +kernel) ?_
  refine j_iast (C' := m9s M (8 + 6) (FWt 6)) (pc := 224) X Yw wm1 (vp_in_nI (by decide +kernel) (by decide +kernel)) dX9_init_224 (by rw [nI_clamp (by decide +kernel)]; exact sm1 _) ?_
  refine j_iinc (pc := 225) (v := nI 7) X dX9_init_225 rfl (by decide +kernel) (by decide +kernel) rfl ?_
  refine j_goto (pc := 228) (tgt := 121) X dX9_init_228 (by decide +kernel) ?_
  exact kk _ _ _
theorem m9_7 (X : Kx (gS g 10 3690) cI cS cX9_init RX9 wsX9_init 5 rm) (Yw : Kw (gS g 10 3690) (WM cI am) A) (kk : ∀ o2 o3 o4 : Option Value, J (gS g 10 3690) (WM cI am) 5 (m9s M (8 + 7) (FWt 7)) 121 [some (.ref (am 0)), some (.int (nI 8)), o2, o3, o4] []) : J (gS g 10 3690) (WM cI am) 5 M 121 [some (.ref (am 0)), some (.int (nI 7)), o2, o3, o4] [] := by
  refine j_iload_n (pc := 121) X dX9_init_121 rfl ?_
  refine j_bipush (pc := 122) (v := nI 26) X dX9_init_122 (by decide +kernel) ?_
  refine j_icmp_ge (pc := 124) (tgt := 231) X dX9_init_124 (by decide +kernel) (fun h => absurd h (by decide +kernel)) (fun _ => ?_)
  refine j_iload_n (pc := 127) X dX9_init_127 rfl ?_
  refine j_bipush (pc := 128) (v := nI 97) X dX9_init_128 (by decide +kernel) ?_
  refine j_iadd (pc := 130) X dX9_init_130 ?_
  rw [show nI 7 + nI 97 = nI 104 by decide +kernel]
  refine j_istore_n (pc := 131) X dX9_init_131 (by decide +kernel) rfl ?_
  refine j_iload_n (pc := 132) X dX9_init_132 rfl ?_
  refine j_bipush (pc := 133) (v := nI 105) X dX9_init_133 (by decide +kernel) ?_
  refine j_icmp_eq (pc := 135) (tgt := 150) X dX9_init_135 (by decide +kernel) (fun h => absurd h (by decide +kernel)) (fun _ => ?_)
  refine j_iload_n (pc := 138) X dX9_init_138 rfl ?_
  refine j_bipush (pc := 139) (v := nI 106) X dX9_init_139 (by decide +kernel) ?_
  refine j_icmp_eq (pc := 141) (tgt := 150) X dX9_init_141 (by decide +kernel) (fun h => absurd h (by decide +kernel)) (fun _ => ?_)
  refine j_iload_n (pc := 144) X dX9_init_144 rfl ?_
  refine j_bipush (pc := 145) (v := nI 108) X dX9_init_145 (by decide +kernel) ?_
  refine j_icmp_ne (pc := 147) (tgt := 154) X dX9_init_147 (by decide +kernel) (fun _ => ?_) (fun h => absurd h (by decide +kernel))
  refine j_iconst (pc := 154) (v := nI 0) X dX9_init_154 (by decide +kernel) ?_
  refine j_istore_n (pc := 155) X dX9_init_155 (by decide +kernel) rfl ?_
  refine j_iload_n (pc := 156) X dX9_init_156 rfl ?_
  refine j_bipush (pc := 157) (v := nI 102) X dX9_init_157 (by decide +kernel) ?_
  refine j_icmp_eq (pc := 159) (tgt := 174) X dX9_init_159 (by decide +kernel) (fun h => absurd h (by decide +kernel)) (fun _ => ?_)
  refine j_iload_n (pc := 162) X dX9_init_162 rfl ?_
  refine j_bipush (pc := 163) (v := nI 114) X dX9_init_163 (by decide +kernel) ?_
  refine j_icmp_eq (pc := 165) (tgt := 174) X dX9_init_165 (by decide +kernel) (fun h => absurd h (by decide +kernel)) (fun _ => ?_)
  refine j_iload_n (pc := 168) X dX9_init_168 rfl ?_
  refine j_bipush (pc := 169) (v := nI 116) X dX9_init_169 (by decide +kernel) ?_
  refine j_icmp_ne (pc := 171) (tgt := 178) X dX9_init_171 (by decide +kernel) (fun _ => ?_) (fun h => absurd h (by decide +kernel))
  refine j_iconst (pc := 178) (v := nI 0) X dX9_init_178 (by decide +kernel) ?_
  refine j_istore (pc := 179) X dX9_init_179 (by decide +kernel) rfl ?_
  refine j_aload_n (pc := 181) X dX9_init_181 rfl ?_
  refine j_get (pc := 182) X iwi_X9_init_X9 wm0 rfl 0 (Nat.le_of_ble_eq_true rfl) lki_X9_7 (v := .ref (am 1)) rfl dX9_init_182 ?_
  refine j_bipush (pc := 185) (v := nI 8) X dX9_init_185 (by decide +kernel) ?_
  refine j_iload_n (pc := 187) X dX9_init_187 rfl ?_
  refine j_iadd (pc := 188) X dX9_init_188 ?_
  rw [show nI 8 + nI 7 = nI 15 by decide +kernel]
  refine j_iload_n (pc := 189) X dX9_init_189 rfl ?_
  refine j_if_eq (pc := 190) (tgt := 197) X dX9_init_190 (by decide +kernel) (fun _ => ?_) (fun h => absurd (by decide +kernel) h)
  refine j_iload (pc := 197) X dX9_init_197 rfl ?_
  refine j_if_eq (pc := 199) (tgt := 206) X dX9_init_199 (by decide +kernel) (fun _ => ?_) (fun h => absurd (by decide +kernel) h)
  refine j_iload_n (pc := 206) X dX9_init_206 rfl ?_
  refine j_bipush (pc := 207) (v := nI 109) X dX9_init_207 (by decide +kernel) ?_
  refine j_icmp_eq (pc := 209) (tgt := 218) X dX9_init_209 (by decide +kernel) (fun h => absurd h (by decide +kernel)) (fun _ => ?_)
  refine j_iload_n (pc := 212) X dX9_init_212 rfl ?_
  refine j_bipush (pc := 213) (v := nI 119) X dX9_init_213 (by decide +kernel) ?_
  refine j_icmp_ne (pc := 215) (tgt := 223) X dX9_init_215 (by decide +kernel) (fun _ => ?_) (fun h => absurd h (by decide +kernel))
  refine j_iconst (pc := 223) (v := FWt 7) X dX9_init_223 (by decide +kernel) ?_
  refine j_iast (C' := m9s M (8 + 7) (FWt 7)) (pc := 224) X Yw wm1 (vp_in_nI (by decide +kernel) (by decide +kernel)) dX9_init_224 (by rw [nI_clamp (by decide +kernel)]; exact sm1 _) ?_
  refine j_iinc (pc := 225) (v := nI 8) X dX9_init_225 rfl (by decide +kernel) (by decide +kernel) rfl ?_
  refine j_goto (pc := 228) (tgt := 121) X dX9_init_228 (by decide +kernel) ?_
  exact kk _ _ _
theorem m9_8 (X : Kx (gS g 10 3690) cI cS cX9_init RX9 wsX9_init 5 rm) (Yw : Kw (gS g 10 3690) (WM cI am) A) (kk : ∀ o2 o3 o4 : Option Value, J (gS g 10 3690) (WM cI am) 5 (m9s M (8 + 8) (FWt 8)) 121 [some (.ref (am 0)), some (.int (nI 9)), o2, o3, o4] []) : J (gS g 10 3690) (WM cI am) 5 M 121 [some (.ref (am 0)), some (.int (nI 8)), o2, o3, o4] [] := by
  refine j_iload_n (pc := 121) X dX9_init_121 rfl ?_
  refine j_bipush (pc := 122) (v := nI 26) X dX9_init_122 (by decide +kernel) ?_
  refine j_icmp_ge (pc := 124) (tgt := 231) X dX9_init_124 (by decide +kernel) (fun h => absurd h (by decide +kernel)) (fun _ => ?_)
  refine j_iload_n (pc := 127) X dX9_init_127 rfl ?_
  refine j_bipush (pc := 128) (v := nI 97) X dX9_init_128 (by decide +kernel) ?_
  refine j_iadd (pc := 130) X dX9_init_130 ?_
  rw [show nI 8 + nI 97 = nI 105 by decide +kernel]
  refine j_istore_n (pc := 131) X dX9_init_131 (by decide +kernel) rfl ?_
  refine j_iload_n (pc := 132) X dX9_init_132 rfl ?_
  refine j_bipush (pc := 133) (v := nI 105) X dX9_init_133 (by decide +kernel) ?_
  refine j_icmp_eq (pc := 135) (tgt := 150) X dX9_init_135 (by decide +kernel) (fun _ => ?_) (fun h => absurd (by decide +kernel) h)
  refine j_iconst (pc := 150) (v := nI 1) X dX9_init_150 (by decide +kernel) ?_
  refine j_goto (pc := 151) (tgt := 155) X dX9_init_151 (by decide +kernel) ?_
  refine j_istore_n (pc := 155) X dX9_init_155 (by decide +kernel) rfl ?_
  refine j_iload_n (pc := 156) X dX9_init_156 rfl ?_
  refine j_bipush (pc := 157) (v := nI 102) X dX9_init_157 (by decide +kernel) ?_
  refine j_icmp_eq (pc := 159) (tgt := 174) X dX9_init_159 (by decide +kernel) (fun h => absurd h (by decide +kernel)) (fun _ => ?_)
  refine j_iload_n (pc := 162) X dX9_init_162 rfl ?_
  refine j_bipush (pc := 163) (v := nI 114) X dX9_init_163 (by decide +kernel) ?_
  refine j_icmp_eq (pc := 165) (tgt := 174) X dX9_init_165 (by decide +kernel) (fun h => absurd h (by decide +kernel)) (fun _ => ?_)
  refine j_iload_n (pc := 168) X dX9_init_168 rfl ?_
  refine j_bipush (pc := 169) (v := nI 116) X dX9_init_169 (by decide +kernel) ?_
  refine j_icmp_ne (pc := 171) (tgt := 178) X dX9_init_171 (by decide +kernel) (fun _ => ?_) (fun h => absurd h (by decide +kernel))
  refine j_iconst (pc := 178) (v := nI 0) X dX9_init_178 (by decide +kernel) ?_
  refine j_istore (pc := 179) X dX9_init_179 (by decide +kernel) rfl ?_
  refine j_aload_n (pc := 181) X dX9_init_181 rfl ?_
  refine j_get (pc := 182) X iwi_X9_init_X9 wm0 rfl 0 (Nat.le_of_ble_eq_true rfl) lki_X9_7 (v := .ref (am 1)) rfl dX9_init_182 ?_
  refine j_bipush (pc := 185) (v := nI 8) X dX9_init_185 (by decide +kernel) ?_
  refine j_iload_n (pc := 187) X dX9_init_187 rfl ?_
  refine j_iadd (pc := 188) X dX9_init_188 ?_
  rw [show nI 8 + nI 8 = nI 16 by decide +kernel]
  refine j_iload_n (pc := 189) X dX9_init_189 rfl ?_
  refine j_if_eq (pc := 190) (tgt := 197) X dX9_init_190 (by decide +kernel) (fun h => absurd h (by decide +kernel)) (fun _ => ?_)
  refine j_iconst (pc := 193) (v := FWt 8) X dX9_init_193 (by decide +kernel) ?_
  refine j_goto (pc := 194) (tgt := 224) X dX9_init_194 (by decide +kernel) ?_
  refine j_iast (C' := m9s M (8 + 8) (FWt 8)) (pc := 224) X Yw wm1 (vp_in_nI (by decide +kernel) (by decide +kernel)) dX9_init_224 (by rw [nI_clamp (by decide +kernel)]; exact sm1 _) ?_
  refine j_iinc (pc := 225) (v := nI 9) X dX9_init_225 rfl (by decide +kernel) (by decide +kernel) rfl ?_
  refine j_goto (pc := 228) (tgt := 121) X dX9_init_228 (by decide +kernel) ?_
  exact kk _ _ _
theorem m9_9 (X : Kx (gS g 10 3690) cI cS cX9_init RX9 wsX9_init 5 rm) (Yw : Kw (gS g 10 3690) (WM cI am) A) (kk : ∀ o2 o3 o4 : Option Value, J (gS g 10 3690) (WM cI am) 5 (m9s M (8 + 9) (FWt 9)) 121 [some (.ref (am 0)), some (.int (nI 10)), o2, o3, o4] []) : J (gS g 10 3690) (WM cI am) 5 M 121 [some (.ref (am 0)), some (.int (nI 9)), o2, o3, o4] [] := by
  refine j_iload_n (pc := 121) X dX9_init_121 rfl ?_
  refine j_bipush (pc := 122) (v := nI 26) X dX9_init_122 (by decide +kernel) ?_
  refine j_icmp_ge (pc := 124) (tgt := 231) X dX9_init_124 (by decide +kernel) (fun h => absurd h (by decide +kernel)) (fun _ => ?_)
  refine j_iload_n (pc := 127) X dX9_init_127 rfl ?_
  refine j_bipush (pc := 128) (v := nI 97) X dX9_init_128 (by decide +kernel) ?_
  refine j_iadd (pc := 130) X dX9_init_130 ?_
  rw [show nI 9 + nI 97 = nI 106 by decide +kernel]
  refine j_istore_n (pc := 131) X dX9_init_131 (by decide +kernel) rfl ?_
  refine j_iload_n (pc := 132) X dX9_init_132 rfl ?_
  refine j_bipush (pc := 133) (v := nI 105) X dX9_init_133 (by decide +kernel) ?_
  refine j_icmp_eq (pc := 135) (tgt := 150) X dX9_init_135 (by decide +kernel) (fun h => absurd h (by decide +kernel)) (fun _ => ?_)
  refine j_iload_n (pc := 138) X dX9_init_138 rfl ?_
  refine j_bipush (pc := 139) (v := nI 106) X dX9_init_139 (by decide +kernel) ?_
  refine j_icmp_eq (pc := 141) (tgt := 150) X dX9_init_141 (by decide +kernel) (fun _ => ?_) (fun h => absurd (by decide +kernel) h)
  refine j_iconst (pc := 150) (v := nI 1) X dX9_init_150 (by decide +kernel) ?_
  refine j_goto (pc := 151) (tgt := 155) X dX9_init_151 (by decide +kernel) ?_
  refine j_istore_n (pc := 155) X dX9_init_155 (by decide +kernel) rfl ?_
  refine j_iload_n (pc := 156) X dX9_init_156 rfl ?_
  refine j_bipush (pc := 157) (v := nI 102) X dX9_init_157 (by decide +kernel) ?_
  refine j_icmp_eq (pc := 159) (tgt := 174) X dX9_init_159 (by decide +kernel) (fun h => absurd h (by decide +kernel)) (fun _ => ?_)
  refine j_iload_n (pc := 162) X dX9_init_162 rfl ?_
  refine j_bipush (pc := 163) (v := nI 114) X dX9_init_163 (by decide +kernel) ?_
  refine j_icmp_eq (pc := 165) (tgt := 174) X dX9_init_165 (by decide +kernel) (fun h => absurd h (by decide +kernel)) (fun _ => ?_)
  refine j_iload_n (pc := 168) X dX9_init_168 rfl ?_
  refine j_bipush (pc := 169) (v := nI 116) X dX9_init_169 (by decide +kernel) ?_
  refine j_icmp_ne (pc := 171) (tgt := 178) X dX9_init_171 (by decide +kernel) (fun _ => ?_) (fun h => absurd h (by decide +kernel))
  refine j_iconst (pc := 178) (v := nI 0) X dX9_init_178 (by decide +kernel) ?_
  refine j_istore (pc := 179) X dX9_init_179 (by decide +kernel) rfl ?_
  refine j_aload_n (pc := 181) X dX9_init_181 rfl ?_
  refine j_get (pc := 182) X iwi_X9_init_X9 wm0 rfl 0 (Nat.le_of_ble_eq_true rfl) lki_X9_7 (v := .ref (am 1)) rfl dX9_init_182 ?_
  refine j_bipush (pc := 185) (v := nI 8) X dX9_init_185 (by decide +kernel) ?_
  refine j_iload_n (pc := 187) X dX9_init_187 rfl ?_
  refine j_iadd (pc := 188) X dX9_init_188 ?_
  rw [show nI 8 + nI 9 = nI 17 by decide +kernel]
  refine j_iload_n (pc := 189) X dX9_init_189 rfl ?_
  refine j_if_eq (pc := 190) (tgt := 197) X dX9_init_190 (by decide +kernel) (fun h => absurd h (by decide +kernel)) (fun _ => ?_)
  refine j_iconst (pc := 193) (v := FWt 9) X dX9_init_193 (by decide +kernel) ?_
  refine j_goto (pc := 194) (tgt := 224) X dX9_init_194 (by decide +kernel) ?_
  refine j_iast (C' := m9s M (8 + 9) (FWt 9)) (pc := 224) X Yw wm1 (vp_in_nI (by decide +kernel) (by decide +kernel)) dX9_init_224 (by rw [nI_clamp (by decide +kernel)]; exact sm1 _) ?_
  refine j_iinc (pc := 225) (v := nI 10) X dX9_init_225 rfl (by decide +kernel) (by decide +kernel) rfl ?_
  refine j_goto (pc := 228) (tgt := 121) X dX9_init_228 (by decide +kernel) ?_
  exact kk _ _ _
theorem m9_10 (X : Kx (gS g 10 3690) cI cS cX9_init RX9 wsX9_init 5 rm) (Yw : Kw (gS g 10 3690) (WM cI am) A) (kk : ∀ o2 o3 o4 : Option Value, J (gS g 10 3690) (WM cI am) 5 (m9s M (8 + 10) (FWt 10)) 121 [some (.ref (am 0)), some (.int (nI 11)), o2, o3, o4] []) : J (gS g 10 3690) (WM cI am) 5 M 121 [some (.ref (am 0)), some (.int (nI 10)), o2, o3, o4] [] := by
  refine j_iload_n (pc := 121) X dX9_init_121 rfl ?_
  refine j_bipush (pc := 122) (v := nI 26) X dX9_init_122 (by decide +kernel) ?_
  refine j_icmp_ge (pc := 124) (tgt := 231) X dX9_init_124 (by decide +kernel) (fun h => absurd h (by decide +kernel)) (fun _ => ?_)
  refine j_iload_n (pc := 127) X dX9_init_127 rfl ?_
  refine j_bipush (pc := 128) (v := nI 97) X dX9_init_128 (by decide +kernel) ?_
  refine j_iadd (pc := 130) X dX9_init_130 ?_
  rw [show nI 10 + nI 97 = nI 107 by decide +kernel]
  refine j_istore_n (pc := 131) X dX9_init_131 (by decide +kernel) rfl ?_
  refine j_iload_n (pc := 132) X dX9_init_132 rfl ?_
  refine j_bipush (pc := 133) (v := nI 105) X dX9_init_133 (by decide +kernel) ?_
  refine j_icmp_eq (pc := 135) (tgt := 150) X dX9_init_135 (by decide +kernel) (fun h => absurd h (by decide +kernel)) (fun _ => ?_)
  refine j_iload_n (pc := 138) X dX9_init_138 rfl ?_
  refine j_bipush (pc := 139) (v := nI 106) X dX9_init_139 (by decide +kernel) ?_
  refine j_icmp_eq (pc := 141) (tgt := 150) X dX9_init_141 (by decide +kernel) (fun h => absurd h (by decide +kernel)) (fun _ => ?_)
  refine j_iload_n (pc := 144) X dX9_init_144 rfl ?_
  refine j_bipush (pc := 145) (v := nI 108) X dX9_init_145 (by decide +kernel) ?_
  refine j_icmp_ne (pc := 147) (tgt := 154) X dX9_init_147 (by decide +kernel) (fun _ => ?_) (fun h => absurd h (by decide +kernel))
  refine j_iconst (pc := 154) (v := nI 0) X dX9_init_154 (by decide +kernel) ?_
  refine j_istore_n (pc := 155) X dX9_init_155 (by decide +kernel) rfl ?_
  refine j_iload_n (pc := 156) X dX9_init_156 rfl ?_
  refine j_bipush (pc := 157) (v := nI 102) X dX9_init_157 (by decide +kernel) ?_
  refine j_icmp_eq (pc := 159) (tgt := 174) X dX9_init_159 (by decide +kernel) (fun h => absurd h (by decide +kernel)) (fun _ => ?_)
  refine j_iload_n (pc := 162) X dX9_init_162 rfl ?_
  refine j_bipush (pc := 163) (v := nI 114) X dX9_init_163 (by decide +kernel) ?_
  refine j_icmp_eq (pc := 165) (tgt := 174) X dX9_init_165 (by decide +kernel) (fun h => absurd h (by decide +kernel)) (fun _ => ?_)
  refine j_iload_n (pc := 168) X dX9_init_168 rfl ?_
  refine j_bipush (pc := 169) (v := nI 116) X dX9_init_169 (by decide +kernel) ?_
  refine j_icmp_ne (pc := 171) (tgt := 178) X dX9_init_171 (by decide +kernel) (fun _ => ?_) (fun h => absurd h (by decide +kernel))
  refine j_iconst (pc := 178) (v := nI 0) X dX9_init_178 (by decide +kernel) ?_
  refine j_istore (pc := 179) X dX9_init_179 (by decide +kernel) rfl ?_
  refine j_aload_n (pc := 181) X dX9_init_181 rfl ?_
  refine j_get (pc := 182) X iwi_X9_init_X9 wm0 rfl 0 (Nat.le_of_ble_eq_true rfl) lki_X9_7 (v := .ref (am 1)) rfl dX9_init_182 ?_
  refine j_bipush (pc := 185) (v := nI 8) X dX9_init_185 (by decide +kernel) ?_
  refine j_iload_n (pc := 187) X dX9_init_187 rfl ?_
  refine j_iadd (pc := 188) X dX9_init_188 ?_
  rw [show nI 8 + nI 10 = nI 18 by decide +kernel]
  refine j_iload_n (pc := 189) X dX9_init_189 rfl ?_
  refine j_if_eq (pc := 190) (tgt := 197) X dX9_init_190 (by decide +kernel) (fun _ => ?_) (fun h => absurd (by decide +kernel) h)
  refine j_iload (pc := 197) X dX9_init_197 rfl ?_
  refine j_if_eq (pc := 199) (tgt := 206) X dX9_init_199 (by decide +kernel) (fun _ => ?_) (fun h => absurd (by decide +kernel) h)
  refine j_iload_n (pc := 206) X dX9_init_206 rfl ?_
  refine j_bipush (pc := 207) (v := nI 109) X dX9_init_207 (by decide +kernel) ?_
  refine j_icmp_eq (pc := 209) (tgt := 218) X dX9_init_209 (by decide +kernel) (fun h => absurd h (by decide +kernel)) (fun _ => ?_)
  refine j_iload_n (pc := 212) X dX9_init_212 rfl ?_
  refine j_bipush (pc := 213) (v := nI 119) X dX9_init_213 (by decide +kernel) ?_
  refine j_icmp_ne (pc := 215) (tgt := 223) X dX9_init_215 (by decide +kernel) (fun _ => ?_) (fun h => absurd h (by decide +kernel))
  refine j_iconst (pc := 223) (v := FWt 10) X dX9_init_223 (by decide +kernel) ?_
  refine j_iast (C' := m9s M (8 + 10) (FWt 10)) (pc := 224) X Yw wm1 (vp_in_nI (by decide +kernel) (by decide +kernel)) dX9_init_224 (by rw [nI_clamp (by decide +kernel)]; exact sm1 _) ?_
  refine j_iinc (pc := 225) (v := nI 11) X dX9_init_225 rfl (by decide +kernel) (by decide +kernel) rfl ?_
  refine j_goto (pc := 228) (tgt := 121) X dX9_init_228 (by decide +kernel) ?_
  exact kk _ _ _
theorem m9_11 (X : Kx (gS g 10 3690) cI cS cX9_init RX9 wsX9_init 5 rm) (Yw : Kw (gS g 10 3690) (WM cI am) A) (kk : ∀ o2 o3 o4 : Option Value, J (gS g 10 3690) (WM cI am) 5 (m9s M (8 + 11) (FWt 11)) 121 [some (.ref (am 0)), some (.int (nI 12)), o2, o3, o4] []) : J (gS g 10 3690) (WM cI am) 5 M 121 [some (.ref (am 0)), some (.int (nI 11)), o2, o3, o4] [] := by
  refine j_iload_n (pc := 121) X dX9_init_121 rfl ?_
  refine j_bipush (pc := 122) (v := nI 26) X dX9_init_122 (by decide +kernel) ?_
  refine j_icmp_ge (pc := 124) (tgt := 231) X dX9_init_124 (by decide +kernel) (fun h => absurd h (by decide +kernel)) (fun _ => ?_)
  refine j_iload_n (pc := 127) X dX9_init_127 rfl ?_
  refine j_bipush (pc := 128) (v := nI 97) X dX9_init_128 (by decide +kernel) ?_
  refine j_iadd (pc := 130) X dX9_init_130 ?_
  rw [show nI 11 + nI 97 = nI 108 by decide +kernel]
  refine j_istore_n (pc := 131) X dX9_init_131 (by decide +kernel) rfl ?_
  refine j_iload_n (pc := 132) X dX9_init_132 rfl ?_
  refine j_bipush (pc := 133) (v := nI 105) X dX9_init_133 (by decide +kernel) ?_
  refine j_icmp_eq (pc := 135) (tgt := 150) X dX9_init_135 (by decide +kernel) (fun h => absurd h (by decide +kernel)) (fun _ => ?_)
  refine j_iload_n (pc := 138) X dX9_init_138 rfl ?_
  refine j_bipush (pc := 139) (v := nI 106) X dX9_init_139 (by decide +kernel) ?_
  refine j_icmp_eq (pc := 141) (tgt := 150) X dX9_init_141 (by decide +kernel) (fun h => absurd h (by decide +kernel)) (fun _ => ?_)
  refine j_iload_n (pc := 144) X dX9_init_144 rfl ?_
  refine j_bipush (pc := 145) (v := nI 108) X dX9_init_145 (by decide +kernel) ?_
  refine j_icmp_ne (pc := 147) (tgt := 154) X dX9_init_147 (by decide +kernel) (fun h => absurd (by decide +kernel) h) (fun _ => ?_)
  refine j_iconst (pc := 150) (v := nI 1) X dX9_init_150 (by decide +kernel) ?_
  refine j_goto (pc := 151) (tgt := 155) X dX9_init_151 (by decide +kernel) ?_
  refine j_istore_n (pc := 155) X dX9_init_155 (by decide +kernel) rfl ?_
  refine j_iload_n (pc := 156) X dX9_init_156 rfl ?_
  refine j_bipush (pc := 157) (v := nI 102) X dX9_init_157 (by decide +kernel) ?_
  refine j_icmp_eq (pc := 159) (tgt := 174) X dX9_init_159 (by decide +kernel) (fun h => absurd h (by decide +kernel)) (fun _ => ?_)
  refine j_iload_n (pc := 162) X dX9_init_162 rfl ?_
  refine j_bipush (pc := 163) (v := nI 114) X dX9_init_163 (by decide +kernel) ?_
  refine j_icmp_eq (pc := 165) (tgt := 174) X dX9_init_165 (by decide +kernel) (fun h => absurd h (by decide +kernel)) (fun _ => ?_)
  refine j_iload_n (pc := 168) X dX9_init_168 rfl ?_
  refine j_bipush (pc := 169) (v := nI 116) X dX9_init_169 (by decide +kernel) ?_
  refine j_icmp_ne (pc := 171) (tgt := 178) X dX9_init_171 (by decide +kernel) (fun _ => ?_) (fun h => absurd h (by decide +kernel))
  refine j_iconst (pc := 178) (v := nI 0) X dX9_init_178 (by decide +kernel) ?_
  refine j_istore (pc := 179) X dX9_init_179 (by decide +kernel) rfl ?_
  refine j_aload_n (pc := 181) X dX9_init_181 rfl ?_
  refine j_get (pc := 182) X iwi_X9_init_X9 wm0 rfl 0 (Nat.le_of_ble_eq_true rfl) lki_X9_7 (v := .ref (am 1)) rfl dX9_init_182 ?_
  refine j_bipush (pc := 185) (v := nI 8) X dX9_init_185 (by decide +kernel) ?_
  refine j_iload_n (pc := 187) X dX9_init_187 rfl ?_
  refine j_iadd (pc := 188) X dX9_init_188 ?_
  rw [show nI 8 + nI 11 = nI 19 by decide +kernel]
  refine j_iload_n (pc := 189) X dX9_init_189 rfl ?_
  refine j_if_eq (pc := 190) (tgt := 197) X dX9_init_190 (by decide +kernel) (fun h => absurd h (by decide +kernel)) (fun _ => ?_)
  refine j_iconst (pc := 193) (v := FWt 11) X dX9_init_193 (by decide +kernel) ?_
  refine j_goto (pc := 194) (tgt := 224) X dX9_init_194 (by decide +kernel) ?_
  refine j_iast (C' := m9s M (8 + 11) (FWt 11)) (pc := 224) X Yw wm1 (vp_in_nI (by decide +kernel) (by decide +kernel)) dX9_init_224 (by rw [nI_clamp (by decide +kernel)]; exact sm1 _) ?_
  refine j_iinc (pc := 225) (v := nI 12) X dX9_init_225 rfl (by decide +kernel) (by decide +kernel) rfl ?_
  refine j_goto (pc := 228) (tgt := 121) X dX9_init_228 (by decide +kernel) ?_
  exact kk _ _ _
theorem m9_12 (X : Kx (gS g 10 3690) cI cS cX9_init RX9 wsX9_init 5 rm) (Yw : Kw (gS g 10 3690) (WM cI am) A) (kk : ∀ o2 o3 o4 : Option Value, J (gS g 10 3690) (WM cI am) 5 (m9s M (8 + 12) (FWt 12)) 121 [some (.ref (am 0)), some (.int (nI 13)), o2, o3, o4] []) : J (gS g 10 3690) (WM cI am) 5 M 121 [some (.ref (am 0)), some (.int (nI 12)), o2, o3, o4] [] := by
  refine j_iload_n (pc := 121) X dX9_init_121 rfl ?_
  refine j_bipush (pc := 122) (v := nI 26) X dX9_init_122 (by decide +kernel) ?_
  refine j_icmp_ge (pc := 124) (tgt := 231) X dX9_init_124 (by decide +kernel) (fun h => absurd h (by decide +kernel)) (fun _ => ?_)
  refine j_iload_n (pc := 127) X dX9_init_127 rfl ?_
  refine j_bipush (pc := 128) (v := nI 97) X dX9_init_128 (by decide +kernel) ?_
  refine j_iadd (pc := 130) X dX9_init_130 ?_
  rw [show nI 12 + nI 97 = nI 109 by decide +kernel]
  refine j_istore_n (pc := 131) X dX9_init_131 (by decide +kernel) rfl ?_
  refine j_iload_n (pc := 132) X dX9_init_132 rfl ?_
  refine j_bipush (pc := 133) (v := nI 105) X dX9_init_133 (by decide +kernel) ?_
  refine j_icmp_eq (pc := 135) (tgt := 150) X dX9_init_135 (by decide +kernel) (fun h => absurd h (by decide +kernel)) (fun _ => ?_)
  refine j_iload_n (pc := 138) X dX9_init_138 rfl ?_
  refine j_bipush (pc := 139) (v := nI 106) X dX9_init_139 (by decide +kernel) ?_
  refine j_icmp_eq (pc := 141) (tgt := 150) X dX9_init_141 (by decide +kernel) (fun h => absurd h (by decide +kernel)) (fun _ => ?_)
  refine j_iload_n (pc := 144) X dX9_init_144 rfl ?_
  refine j_bipush (pc := 145) (v := nI 108) X dX9_init_145 (by decide +kernel) ?_
  refine j_icmp_ne (pc := 147) (tgt := 154) X dX9_init_147 (by decide +kernel) (fun _ => ?_) (fun h => absurd h (by decide +kernel))
  refine j_iconst (pc := 154) (v := nI 0) X dX9_init_154 (by decide +kernel) ?_
  refine j_istore_n (pc := 155) X dX9_init_155 (by decide +kernel) rfl ?_
  refine j_iload_n (pc := 156) X dX9_init_156 rfl ?_
  refine j_bipush (pc := 157) (v := nI 102) X dX9_init_157 (by decide +kernel) ?_
  refine j_icmp_eq (pc := 159) (tgt := 174) X dX9_init_159 (by decide +kernel) (fun h => absurd h (by decide +kernel)) (fun _ => ?_)
  refine j_iload_n (pc := 162) X dX9_init_162 rfl ?_
  refine j_bipush (pc := 163) (v := nI 114) X dX9_init_163 (by decide +kernel) ?_
  refine j_icmp_eq (pc := 165) (tgt := 174) X dX9_init_165 (by decide +kernel) (fun h => absurd h (by decide +kernel)) (fun _ => ?_)
  refine j_iload_n (pc := 168) X dX9_init_168 rfl ?_
  refine j_bipush (pc := 169) (v := nI 116) X dX9_init_169 (by decide +kernel) ?_
  refine j_icmp_ne (pc := 171) (tgt := 178) X dX9_init_171 (by decide +kernel) (fun _ => ?_) (fun h => absurd h (by decide +kernel))
  refine j_iconst (pc := 178) (v := nI 0) X dX9_init_178 (by decide +kernel) ?_
  refine j_istore (pc := 179) X dX9_init_179 (by decide +kernel) rfl ?_
  refine j_aload_n (pc := 181) X dX9_init_181 rfl ?_
  refine j_get (pc := 182) X iwi_X9_init_X9 wm0 rfl 0 (Nat.le_of_ble_eq_true rfl) lki_X9_7 (v := .ref (am 1)) rfl dX9_init_182 ?_
  refine j_bipush (pc := 185) (v := nI 8) X dX9_init_185 (by decide +kernel) ?_
  refine j_iload_n (pc := 187) X dX9_init_187 rfl ?_
  refine j_iadd (pc := 188) X dX9_init_188 ?_
  rw [show nI 8 + nI 12 = nI 20 by decide +kernel]
  refine j_iload_n (pc := 189) X dX9_init_189 rfl ?_
  refine j_if_eq (pc := 190) (tgt := 197) X dX9_init_190 (by decide +kernel) (fun _ => ?_) (fun h => absurd (by decide +kernel) h)
  refine j_iload (pc := 197) X dX9_init_197 rfl ?_
  refine j_if_eq (pc := 199) (tgt := 206) X dX9_init_199 (by decide +kernel) (fun _ => ?_) (fun h => absurd (by decide +kernel) h)
  refine j_iload_n (pc := 206) X dX9_init_206 rfl ?_
  refine j_bipush (pc := 207) (v := nI 109) X dX9_init_207 (by decide +kernel) ?_
  refine j_icmp_eq (pc := 209) (tgt := 218) X dX9_init_209 (by decide +kernel) (fun _ => ?_) (fun h => absurd (by decide +kernel) h)
  refine j_bipush (pc := 218) (v := FWt 12) X dX9_init_218 (by decide +kernel) ?_
  refine j_goto (pc := 220) (tgt := 224) X dX9_init_220 (by decide +kernel) ?_
  refine j_iast (C' := m9s M (8 + 12) (FWt 12)) (pc := 224) X Yw wm1 (vp_in_nI (by decide +kernel) (by decide +kernel)) dX9_init_224 (by rw [nI_clamp (by decide +kernel)]; exact sm1 _) ?_
  refine j_iinc (pc := 225) (v := nI 13) X dX9_init_225 rfl (by decide +kernel) (by decide +kernel) rfl ?_
  refine j_goto (pc := 228) (tgt := 121) X dX9_init_228 (by decide +kernel) ?_
  exact kk _ _ _
theorem m9_13 (X : Kx (gS g 10 3690) cI cS cX9_init RX9 wsX9_init 5 rm) (Yw : Kw (gS g 10 3690) (WM cI am) A) (kk : ∀ o2 o3 o4 : Option Value, J (gS g 10 3690) (WM cI am) 5 (m9s M (8 + 13) (FWt 13)) 121 [some (.ref (am 0)), some (.int (nI 14)), o2, o3, o4] []) : J (gS g 10 3690) (WM cI am) 5 M 121 [some (.ref (am 0)), some (.int (nI 13)), o2, o3, o4] [] := by
  refine j_iload_n (pc := 121) X dX9_init_121 rfl ?_
  refine j_bipush (pc := 122) (v := nI 26) X dX9_init_122 (by decide +kernel) ?_
  refine j_icmp_ge (pc := 124) (tgt := 231) X dX9_init_124 (by decide +kernel) (fun h => absurd h (by decide +kernel)) (fun _ => ?_)
  refine j_iload_n (pc := 127) X dX9_init_127 rfl ?_
  refine j_bipush (pc := 128) (v := nI 97) X dX9_init_128 (by decide +kernel) ?_
  refine j_iadd (pc := 130) X dX9_init_130 ?_
  rw [show nI 13 + nI 97 = nI 110 by decide +kernel]
  refine j_istore_n (pc := 131) X dX9_init_131 (by decide +kernel) rfl ?_
  refine j_iload_n (pc := 132) X dX9_init_132 rfl ?_
  refine j_bipush (pc := 133) (v := nI 105) X dX9_init_133 (by decide +kernel) ?_
  refine j_icmp_eq (pc := 135) (tgt := 150) X dX9_init_135 (by decide +kernel) (fun h => absurd h (by decide +kernel)) (fun _ => ?_)
  refine j_iload_n (pc := 138) X dX9_init_138 rfl ?_
  refine j_bipush (pc := 139) (v := nI 106) X dX9_init_139 (by decide +kernel) ?_
  refine j_icmp_eq (pc := 141) (tgt := 150) X dX9_init_141 (by decide +kernel) (fun h => absurd h (by decide +kernel)) (fun _ => ?_)
  refine j_iload_n (pc := 144) X dX9_init_144 rfl ?_
  refine j_bipush (pc := 145) (v := nI 108) X dX9_init_145 (by decide +kernel) ?_
  refine j_icmp_ne (pc := 147) (tgt := 154) X dX9_init_147 (by decide +kernel) (fun _ => ?_) (fun h => absurd h (by decide +kernel))
  refine j_iconst (pc := 154) (v := nI 0) X dX9_init_154 (by decide +kernel) ?_
  refine j_istore_n (pc := 155) X dX9_init_155 (by decide +kernel) rfl ?_
  refine j_iload_n (pc := 156) X dX9_init_156 rfl ?_
  refine j_bipush (pc := 157) (v := nI 102) X dX9_init_157 (by decide +kernel) ?_
  refine j_icmp_eq (pc := 159) (tgt := 174) X dX9_init_159 (by decide +kernel) (fun h => absurd h (by decide +kernel)) (fun _ => ?_)
  refine j_iload_n (pc := 162) X dX9_init_162 rfl ?_
  refine j_bipush (pc := 163) (v := nI 114) X dX9_init_163 (by decide +kernel) ?_
  refine j_icmp_eq (pc := 165) (tgt := 174) X dX9_init_165 (by decide +kernel) (fun h => absurd h (by decide +kernel)) (fun _ => ?_)
  refine j_iload_n (pc := 168) X dX9_init_168 rfl ?_
  refine j_bipush (pc := 169) (v := nI 116) X dX9_init_169 (by decide +kernel) ?_
  refine j_icmp_ne (pc := 171) (tgt := 178) X dX9_init_171 (by decide +kernel) (fun _ => ?_) (fun h => absurd h (by decide +kernel))
  refine j_iconst (pc := 178) (v := nI 0) X dX9_init_178 (by decide +kernel) ?_
  refine j_istore (pc := 179) X dX9_init_179 (by decide +kernel) rfl ?_
  refine j_aload_n (pc := 181) X dX9_init_181 rfl ?_
  refine j_get (pc := 182) X iwi_X9_init_X9 wm0 rfl 0 (Nat.le_of_ble_eq_true rfl) lki_X9_7 (v := .ref (am 1)) rfl dX9_init_182 ?_
  refine j_bipush (pc := 185) (v := nI 8) X dX9_init_185 (by decide +kernel) ?_
  refine j_iload_n (pc := 187) X dX9_init_187 rfl ?_
  refine j_iadd (pc := 188) X dX9_init_188 ?_
  rw [show nI 8 + nI 13 = nI 21 by decide +kernel]
  refine j_iload_n (pc := 189) X dX9_init_189 rfl ?_
  refine j_if_eq (pc := 190) (tgt := 197) X dX9_init_190 (by decide +kernel) (fun _ => ?_) (fun h => absurd (by decide +kernel) h)
  refine j_iload (pc := 197) X dX9_init_197 rfl ?_
  refine j_if_eq (pc := 199) (tgt := 206) X dX9_init_199 (by decide +kernel) (fun _ => ?_) (fun h => absurd (by decide +kernel) h)
  refine j_iload_n (pc := 206) X dX9_init_206 rfl ?_
  refine j_bipush (pc := 207) (v := nI 109) X dX9_init_207 (by decide +kernel) ?_
  refine j_icmp_eq (pc := 209) (tgt := 218) X dX9_init_209 (by decide +kernel) (fun h => absurd h (by decide +kernel)) (fun _ => ?_)
  refine j_iload_n (pc := 212) X dX9_init_212 rfl ?_
  refine j_bipush (pc := 213) (v := nI 119) X dX9_init_213 (by decide +kernel) ?_
  refine j_icmp_ne (pc := 215) (tgt := 223) X dX9_init_215 (by decide +kernel) (fun _ => ?_) (fun h => absurd h (by decide +kernel))
  refine j_iconst (pc := 223) (v := FWt 13) X dX9_init_223 (by decide +kernel) ?_
  refine j_iast (C' := m9s M (8 + 13) (FWt 13)) (pc := 224) X Yw wm1 (vp_in_nI (by decide +kernel) (by decide +kernel)) dX9_init_224 (by rw [nI_clamp (by decide +kernel)]; exact sm1 _) ?_
  refine j_iinc (pc := 225) (v := nI 14) X dX9_init_225 rfl (by decide +kernel) (by decide +kernel) rfl ?_
  refine j_goto (pc := 228) (tgt := 121) X dX9_init_228 (by decide +kernel) ?_
  exact kk _ _ _
theorem m9_14 (X : Kx (gS g 10 3690) cI cS cX9_init RX9 wsX9_init 5 rm) (Yw : Kw (gS g 10 3690) (WM cI am) A) (kk : ∀ o2 o3 o4 : Option Value, J (gS g 10 3690) (WM cI am) 5 (m9s M (8 + 14) (FWt 14)) 121 [some (.ref (am 0)), some (.int (nI 15)), o2, o3, o4] []) : J (gS g 10 3690) (WM cI am) 5 M 121 [some (.ref (am 0)), some (.int (nI 14)), o2, o3, o4] [] := by
  refine j_iload_n (pc := 121) X dX9_init_121 rfl ?_
  refine j_bipush (pc := 122) (v := nI 26) X dX9_init_122 (by decide +kernel) ?_
  refine j_icmp_ge (pc := 124) (tgt := 231) X dX9_init_124 (by decide +kernel) (fun h => absurd h (by decide +kernel)) (fun _ => ?_)
  refine j_iload_n (pc := 127) X dX9_init_127 rfl ?_
  refine j_bipush (pc := 128) (v := nI 97) X dX9_init_128 (by decide +kernel) ?_
  refine j_iadd (pc := 130) X dX9_init_130 ?_
  rw [show nI 14 + nI 97 = nI 111 by decide +kernel]
  refine j_istore_n (pc := 131) X dX9_init_131 (by decide +kernel) rfl ?_
  refine j_iload_n (pc := 132) X dX9_init_132 rfl ?_
  refine j_bipush (pc := 133) (v := nI 105) X dX9_init_133 (by decide +kernel) ?_
  refine j_icmp_eq (pc := 135) (tgt := 150) X dX9_init_135 (by decide +kernel) (fun h => absurd h (by decide +kernel)) (fun _ => ?_)
  refine j_iload_n (pc := 138) X dX9_init_138 rfl ?_
  refine j_bipush (pc := 139) (v := nI 106) X dX9_init_139 (by decide +kernel) ?_
  refine j_icmp_eq (pc := 141) (tgt := 150) X dX9_init_141 (by decide +kernel) (fun h => absurd h (by decide +kernel)) (fun _ => ?_)
  refine j_iload_n (pc := 144) X dX9_init_144 rfl ?_
  refine j_bipush (pc := 145) (v := nI 108) X dX9_init_145 (by decide +kernel) ?_
  refine j_icmp_ne (pc := 147) (tgt := 154) X dX9_init_147 (by decide +kernel) (fun _ => ?_) (fun h => absurd h (by decide +kernel))
  refine j_iconst (pc := 154) (v := nI 0) X dX9_init_154 (by decide +kernel) ?_
  refine j_istore_n (pc := 155) X dX9_init_155 (by decide +kernel) rfl ?_
  refine j_iload_n (pc := 156) X dX9_init_156 rfl ?_
  refine j_bipush (pc := 157) (v := nI 102) X dX9_init_157 (by decide +kernel) ?_
  refine j_icmp_eq (pc := 159) (tgt := 174) X dX9_init_159 (by decide +kernel) (fun h => absurd h (by decide +kernel)) (fun _ => ?_)
  refine j_iload_n (pc := 162) X dX9_init_162 rfl ?_
  refine j_bipush (pc := 163) (v := nI 114) X dX9_init_163 (by decide +kernel) ?_
  refine j_icmp_eq (pc := 165) (tgt := 174) X dX9_init_165 (by decide +kernel) (fun h => absurd h (by decide +kernel)) (fun _ => ?_)
  refine j_iload_n (pc := 168) X dX9_init_168 rfl ?_
  refine j_bipush (pc := 169) (v := nI 116) X dX9_init_169 (by decide +kernel) ?_
  refine j_icmp_ne (pc := 171) (tgt := 178) X dX9_init_171 (by decide +kernel) (fun _ => ?_) (fun h => absurd h (by decide +kernel))
  refine j_iconst (pc := 178) (v := nI 0) X dX9_init_178 (by decide +kernel) ?_
  refine j_istore (pc := 179) X dX9_init_179 (by decide +kernel) rfl ?_
  refine j_aload_n (pc := 181) X dX9_init_181 rfl ?_
  refine j_get (pc := 182) X iwi_X9_init_X9 wm0 rfl 0 (Nat.le_of_ble_eq_true rfl) lki_X9_7 (v := .ref (am 1)) rfl dX9_init_182 ?_
  refine j_bipush (pc := 185) (v := nI 8) X dX9_init_185 (by decide +kernel) ?_
  refine j_iload_n (pc := 187) X dX9_init_187 rfl ?_
  refine j_iadd (pc := 188) X dX9_init_188 ?_
  rw [show nI 8 + nI 14 = nI 22 by decide +kernel]
  refine j_iload_n (pc := 189) X dX9_init_189 rfl ?_
  refine j_if_eq (pc := 190) (tgt := 197) X dX9_init_190 (by decide +kernel) (fun _ => ?_) (fun h => absurd (by decide +kernel) h)
  refine j_iload (pc := 197) X dX9_init_197 rfl ?_
  refine j_if_eq (pc := 199) (tgt := 206) X dX9_init_199 (by decide +kernel) (fun _ => ?_) (fun h => absurd (by decide +kernel) h)
  refine j_iload_n (pc := 206) X dX9_init_206 rfl ?_
  refine j_bipush (pc := 207) (v := nI 109) X dX9_init_207 (by decide +kernel) ?_
  refine j_icmp_eq (pc := 209) (tgt := 218) X dX9_init_209 (by decide +kernel) (fun h => absurd h (by decide +kernel)) (fun _ => ?_)
  refine j_iload_n (pc := 212) X dX9_init_212 rfl ?_
  refine j_bipush (pc := 213) (v := nI 119) X dX9_init_213 (by decide +kernel) ?_
  refine j_icmp_ne (pc := 215) (tgt := 223) X dX9_init_215 (by decide +kernel) (fun _ => ?_) (fun h => absurd h (by decide +kernel))
  refine j_iconst (pc := 223) (v := FWt 14) X dX9_init_223 (by decide +kernel) ?_
  refine j_iast (C' := m9s M (8 + 14) (FWt 14)) (pc := 224) X Yw wm1 (vp_in_nI (by decide +kernel) (by decide +kernel)) dX9_init_224 (by rw [nI_clamp (by decide +kernel)]; exact sm1 _) ?_
  refine j_iinc (pc := 225) (v := nI 15) X dX9_init_225 rfl (by decide +kernel) (by decide +kernel) rfl ?_
  refine j_goto (pc := 228) (tgt := 121) X dX9_init_228 (by decide +kernel) ?_
  exact kk _ _ _
theorem m9_15 (X : Kx (gS g 10 3690) cI cS cX9_init RX9 wsX9_init 5 rm) (Yw : Kw (gS g 10 3690) (WM cI am) A) (kk : ∀ o2 o3 o4 : Option Value, J (gS g 10 3690) (WM cI am) 5 (m9s M (8 + 15) (FWt 15)) 121 [some (.ref (am 0)), some (.int (nI 16)), o2, o3, o4] []) : J (gS g 10 3690) (WM cI am) 5 M 121 [some (.ref (am 0)), some (.int (nI 15)), o2, o3, o4] [] := by
  refine j_iload_n (pc := 121) X dX9_init_121 rfl ?_
  refine j_bipush (pc := 122) (v := nI 26) X dX9_init_122 (by decide +kernel) ?_
  refine j_icmp_ge (pc := 124) (tgt := 231) X dX9_init_124 (by decide +kernel) (fun h => absurd h (by decide +kernel)) (fun _ => ?_)
  refine j_iload_n (pc := 127) X dX9_init_127 rfl ?_
  refine j_bipush (pc := 128) (v := nI 97) X dX9_init_128 (by decide +kernel) ?_
  refine j_iadd (pc := 130) X dX9_init_130 ?_
  rw [show nI 15 + nI 97 = nI 112 by decide +kernel]
  refine j_istore_n (pc := 131) X dX9_init_131 (by decide +kernel) rfl ?_
  refine j_iload_n (pc := 132) X dX9_init_132 rfl ?_
  refine j_bipush (pc := 133) (v := nI 105) X dX9_init_133 (by decide +kernel) ?_
  refine j_icmp_eq (pc := 135) (tgt := 150) X dX9_init_135 (by decide +kernel) (fun h => absurd h (by decide +kernel)) (fun _ => ?_)
  refine j_iload_n (pc := 138) X dX9_init_138 rfl ?_
  refine j_bipush (pc := 139) (v := nI 106) X dX9_init_139 (by decide +kernel) ?_
  refine j_icmp_eq (pc := 141) (tgt := 150) X dX9_init_141 (by decide +kernel) (fun h => absurd h (by decide +kernel)) (fun _ => ?_)
  refine j_iload_n (pc := 144) X dX9_init_144 rfl ?_
  refine j_bipush (pc := 145) (v := nI 108) X dX9_init_145 (by decide +kernel) ?_
  refine j_icmp_ne (pc := 147) (tgt := 154) X dX9_init_147 (by decide +kernel) (fun _ => ?_) (fun h => absurd h (by decide +kernel))
  refine j_iconst (pc := 154) (v := nI 0) X dX9_init_154 (by decide +kernel) ?_
  refine j_istore_n (pc := 155) X dX9_init_155 (by decide +kernel) rfl ?_
  refine j_iload_n (pc := 156) X dX9_init_156 rfl ?_
  refine j_bipush (pc := 157) (v := nI 102) X dX9_init_157 (by decide +kernel) ?_
  refine j_icmp_eq (pc := 159) (tgt := 174) X dX9_init_159 (by decide +kernel) (fun h => absurd h (by decide +kernel)) (fun _ => ?_)
  refine j_iload_n (pc := 162) X dX9_init_162 rfl ?_
  refine j_bipush (pc := 163) (v := nI 114) X dX9_init_163 (by decide +kernel) ?_
  refine j_icmp_eq (pc := 165) (tgt := 174) X dX9_init_165 (by decide +kernel) (fun h => absurd h (by decide +kernel)) (fun _ => ?_)
  refine j_iload_n (pc := 168) X dX9_init_168 rfl ?_
  refine j_bipush (pc := 169) (v := nI 116) X dX9_init_169 (by decide +kernel) ?_
  refine j_icmp_ne (pc := 171) (tgt := 178) X dX9_init_171 (by decide +kernel) (fun _ => ?_) (fun h => absurd h (by decide +kernel))
  refine j_iconst (pc := 178) (v := nI 0) X dX9_init_178 (by decide +kernel) ?_
  refine j_istore (pc := 179) X dX9_init_179 (by decide +kernel) rfl ?_
  refine j_aload_n (pc := 181) X dX9_init_181 rfl ?_
  refine j_get (pc := 182) X iwi_X9_init_X9 wm0 rfl 0 (Nat.le_of_ble_eq_true rfl) lki_X9_7 (v := .ref (am 1)) rfl dX9_init_182 ?_
  refine j_bipush (pc := 185) (v := nI 8) X dX9_init_185 (by decide +kernel) ?_
  refine j_iload_n (pc := 187) X dX9_init_187 rfl ?_
  refine j_iadd (pc := 188) X dX9_init_188 ?_
  rw [show nI 8 + nI 15 = nI 23 by decide +kernel]
  refine j_iload_n (pc := 189) X dX9_init_189 rfl ?_
  refine j_if_eq (pc := 190) (tgt := 197) X dX9_init_190 (by decide +kernel) (fun _ => ?_) (fun h => absurd (by decide +kernel) h)
  refine j_iload (pc := 197) X dX9_init_197 rfl ?_
  refine j_if_eq (pc := 199) (tgt := 206) X dX9_init_199 (by decide +kernel) (fun _ => ?_) (fun h => absurd (by decide +kernel) h)
  refine j_iload_n (pc := 206) X dX9_init_206 rfl ?_
  refine j_bipush (pc := 207) (v := nI 109) X dX9_init_207 (by decide +kernel) ?_
  refine j_icmp_eq (pc := 209) (tgt := 218) X dX9_init_209 (by decide +kernel) (fun h => absurd h (by decide +kernel)) (fun _ => ?_)
  refine j_iload_n (pc := 212) X dX9_init_212 rfl ?_
  refine j_bipush (pc := 213) (v := nI 119) X dX9_init_213 (by decide +kernel) ?_
  refine j_icmp_ne (pc := 215) (tgt := 223) X dX9_init_215 (by decide +kernel) (fun _ => ?_) (fun h => absurd h (by decide +kernel))
  refine j_iconst (pc := 223) (v := FWt 15) X dX9_init_223 (by decide +kernel) ?_
  refine j_iast (C' := m9s M (8 + 15) (FWt 15)) (pc := 224) X Yw wm1 (vp_in_nI (by decide +kernel) (by decide +kernel)) dX9_init_224 (by rw [nI_clamp (by decide +kernel)]; exact sm1 _) ?_
  refine j_iinc (pc := 225) (v := nI 16) X dX9_init_225 rfl (by decide +kernel) (by decide +kernel) rfl ?_
  refine j_goto (pc := 228) (tgt := 121) X dX9_init_228 (by decide +kernel) ?_
  exact kk _ _ _
theorem m9_16 (X : Kx (gS g 10 3690) cI cS cX9_init RX9 wsX9_init 5 rm) (Yw : Kw (gS g 10 3690) (WM cI am) A) (kk : ∀ o2 o3 o4 : Option Value, J (gS g 10 3690) (WM cI am) 5 (m9s M (8 + 16) (FWt 16)) 121 [some (.ref (am 0)), some (.int (nI 17)), o2, o3, o4] []) : J (gS g 10 3690) (WM cI am) 5 M 121 [some (.ref (am 0)), some (.int (nI 16)), o2, o3, o4] [] := by
  refine j_iload_n (pc := 121) X dX9_init_121 rfl ?_
  refine j_bipush (pc := 122) (v := nI 26) X dX9_init_122 (by decide +kernel) ?_
  refine j_icmp_ge (pc := 124) (tgt := 231) X dX9_init_124 (by decide +kernel) (fun h => absurd h (by decide +kernel)) (fun _ => ?_)
  refine j_iload_n (pc := 127) X dX9_init_127 rfl ?_
  refine j_bipush (pc := 128) (v := nI 97) X dX9_init_128 (by decide +kernel) ?_
  refine j_iadd (pc := 130) X dX9_init_130 ?_
  rw [show nI 16 + nI 97 = nI 113 by decide +kernel]
  refine j_istore_n (pc := 131) X dX9_init_131 (by decide +kernel) rfl ?_
  refine j_iload_n (pc := 132) X dX9_init_132 rfl ?_
  refine j_bipush (pc := 133) (v := nI 105) X dX9_init_133 (by decide +kernel) ?_
  refine j_icmp_eq (pc := 135) (tgt := 150) X dX9_init_135 (by decide +kernel) (fun h => absurd h (by decide +kernel)) (fun _ => ?_)
  refine j_iload_n (pc := 138) X dX9_init_138 rfl ?_
  refine j_bipush (pc := 139) (v := nI 106) X dX9_init_139 (by decide +kernel) ?_
  refine j_icmp_eq (pc := 141) (tgt := 150) X dX9_init_141 (by decide +kernel) (fun h => absurd h (by decide +kernel)) (fun _ => ?_)
  refine j_iload_n (pc := 144) X dX9_init_144 rfl ?_
  refine j_bipush (pc := 145) (v := nI 108) X dX9_init_145 (by decide +kernel) ?_
  refine j_icmp_ne (pc := 147) (tgt := 154) X dX9_init_147 (by decide +kernel) (fun _ => ?_) (fun h => absurd h (by decide +kernel))
  refine j_iconst (pc := 154) (v := nI 0) X dX9_init_154 (by decide +kernel) ?_
  refine j_istore_n (pc := 155) X dX9_init_155 (by decide +kernel) rfl ?_
  refine j_iload_n (pc := 156) X dX9_init_156 rfl ?_
  refine j_bipush (pc := 157) (v := nI 102) X dX9_init_157 (by decide +kernel) ?_
  refine j_icmp_eq (pc := 159) (tgt := 174) X dX9_init_159 (by decide +kernel) (fun h => absurd h (by decide +kernel)) (fun _ => ?_)
  refine j_iload_n (pc := 162) X dX9_init_162 rfl ?_
  refine j_bipush (pc := 163) (v := nI 114) X dX9_init_163 (by decide +kernel) ?_
  refine j_icmp_eq (pc := 165) (tgt := 174) X dX9_init_165 (by decide +kernel) (fun h => absurd h (by decide +kernel)) (fun _ => ?_)
  refine j_iload_n (pc := 168) X dX9_init_168 rfl ?_
  refine j_bipush (pc := 169) (v := nI 116) X dX9_init_169 (by decide +kernel) ?_
  refine j_icmp_ne (pc := 171) (tgt := 178) X dX9_init_171 (by decide +kernel) (fun _ => ?_) (fun h => absurd h (by decide +kernel))
  refine j_iconst (pc := 178) (v := nI 0) X dX9_init_178 (by decide +kernel) ?_
  refine j_istore (pc := 179) X dX9_init_179 (by decide +kernel) rfl ?_
  refine j_aload_n (pc := 181) X dX9_init_181 rfl ?_
  refine j_get (pc := 182) X iwi_X9_init_X9 wm0 rfl 0 (Nat.le_of_ble_eq_true rfl) lki_X9_7 (v := .ref (am 1)) rfl dX9_init_182 ?_
  refine j_bipush (pc := 185) (v := nI 8) X dX9_init_185 (by decide +kernel) ?_
  refine j_iload_n (pc := 187) X dX9_init_187 rfl ?_
  refine j_iadd (pc := 188) X dX9_init_188 ?_
  rw [show nI 8 + nI 16 = nI 24 by decide +kernel]
  refine j_iload_n (pc := 189) X dX9_init_189 rfl ?_
  refine j_if_eq (pc := 190) (tgt := 197) X dX9_init_190 (by decide +kernel) (fun _ => ?_) (fun h => absurd (by decide +kernel) h)
  refine j_iload (pc := 197) X dX9_init_197 rfl ?_
  refine j_if_eq (pc := 199) (tgt := 206) X dX9_init_199 (by decide +kernel) (fun _ => ?_) (fun h => absurd (by decide +kernel) h)
  refine j_iload_n (pc := 206) X dX9_init_206 rfl ?_
  refine j_bipush (pc := 207) (v := nI 109) X dX9_init_207 (by decide +kernel) ?_
  refine j_icmp_eq (pc := 209) (tgt := 218) X dX9_init_209 (by decide +kernel) (fun h => absurd h (by decide +kernel)) (fun _ => ?_)
  refine j_iload_n (pc := 212) X dX9_init_212 rfl ?_
  refine j_bipush (pc := 213) (v := nI 119) X dX9_init_213 (by decide +kernel) ?_
  refine j_icmp_ne (pc := 215) (tgt := 223) X dX9_init_215 (by decide +kernel) (fun _ => ?_) (fun h => absurd h (by decide +kernel))
  refine j_iconst (pc := 223) (v := FWt 16) X dX9_init_223 (by decide +kernel) ?_
  refine j_iast (C' := m9s M (8 + 16) (FWt 16)) (pc := 224) X Yw wm1 (vp_in_nI (by decide +kernel) (by decide +kernel)) dX9_init_224 (by rw [nI_clamp (by decide +kernel)]; exact sm1 _) ?_
  refine j_iinc (pc := 225) (v := nI 17) X dX9_init_225 rfl (by decide +kernel) (by decide +kernel) rfl ?_
  refine j_goto (pc := 228) (tgt := 121) X dX9_init_228 (by decide +kernel) ?_
  exact kk _ _ _
theorem m9_17 (X : Kx (gS g 10 3690) cI cS cX9_init RX9 wsX9_init 5 rm) (Yw : Kw (gS g 10 3690) (WM cI am) A) (kk : ∀ o2 o3 o4 : Option Value, J (gS g 10 3690) (WM cI am) 5 (m9s M (8 + 17) (FWt 17)) 121 [some (.ref (am 0)), some (.int (nI 18)), o2, o3, o4] []) : J (gS g 10 3690) (WM cI am) 5 M 121 [some (.ref (am 0)), some (.int (nI 17)), o2, o3, o4] [] := by
  refine j_iload_n (pc := 121) X dX9_init_121 rfl ?_
  refine j_bipush (pc := 122) (v := nI 26) X dX9_init_122 (by decide +kernel) ?_
  refine j_icmp_ge (pc := 124) (tgt := 231) X dX9_init_124 (by decide +kernel) (fun h => absurd h (by decide +kernel)) (fun _ => ?_)
  refine j_iload_n (pc := 127) X dX9_init_127 rfl ?_
  refine j_bipush (pc := 128) (v := nI 97) X dX9_init_128 (by decide +kernel) ?_
  refine j_iadd (pc := 130) X dX9_init_130 ?_
  rw [show nI 17 + nI 97 = nI 114 by decide +kernel]
  refine j_istore_n (pc := 131) X dX9_init_131 (by decide +kernel) rfl ?_
  refine j_iload_n (pc := 132) X dX9_init_132 rfl ?_
  refine j_bipush (pc := 133) (v := nI 105) X dX9_init_133 (by decide +kernel) ?_
  refine j_icmp_eq (pc := 135) (tgt := 150) X dX9_init_135 (by decide +kernel) (fun h => absurd h (by decide +kernel)) (fun _ => ?_)
  refine j_iload_n (pc := 138) X dX9_init_138 rfl ?_
  refine j_bipush (pc := 139) (v := nI 106) X dX9_init_139 (by decide +kernel) ?_
  refine j_icmp_eq (pc := 141) (tgt := 150) X dX9_init_141 (by decide +kernel) (fun h => absurd h (by decide +kernel)) (fun _ => ?_)
  refine j_iload_n (pc := 144) X dX9_init_144 rfl ?_
  refine j_bipush (pc := 145) (v := nI 108) X dX9_init_145 (by decide +kernel) ?_
  refine j_icmp_ne (pc := 147) (tgt := 154) X dX9_init_147 (by decide +kernel) (fun _ => ?_) (fun h => absurd h (by decide +kernel))
  refine j_iconst (pc := 154) (v := nI 0) X dX9_init_154 (by decide +kernel) ?_
  refine j_istore_n (pc := 155) X dX9_init_155 (by decide +kernel) rfl ?_
  refine j_iload_n (pc := 156) X dX9_init_156 rfl ?_
  refine j_bipush (pc := 157) (v := nI 102) X dX9_init_157 (by decide +kernel) ?_
  refine j_icmp_eq (pc := 159) (tgt := 174) X dX9_init_159 (by decide +kernel) (fun h => absurd h (by decide +kernel)) (fun _ => ?_)
  refine j_iload_n (pc := 162) X dX9_init_162 rfl ?_
  refine j_bipush (pc := 163) (v := nI 114) X dX9_init_163 (by decide +kernel) ?_
  refine j_icmp_eq (pc := 165) (tgt := 174) X dX9_init_165 (by decide +kernel) (fun _ => ?_) (fun h => absurd (by decide +kernel) h)
  refine j_iconst (pc := 174) (v := nI 1) X dX9_init_174 (by decide +kernel) ?_
  refine j_goto (pc := 175) (tgt := 179) X dX9_init_175 (by decide +kernel) ?_
  refine j_istore (pc := 179) X dX9_init_179 (by decide +kernel) rfl ?_
  refine j_aload_n (pc := 181) X dX9_init_181 rfl ?_
  refine j_get (pc := 182) X iwi_X9_init_X9 wm0 rfl 0 (Nat.le_of_ble_eq_true rfl) lki_X9_7 (v := .ref (am 1)) rfl dX9_init_182 ?_
  refine j_bipush (pc := 185) (v := nI 8) X dX9_init_185 (by decide +kernel) ?_
  refine j_iload_n (pc := 187) X dX9_init_187 rfl ?_
  refine j_iadd (pc := 188) X dX9_init_188 ?_
  rw [show nI 8 + nI 17 = nI 25 by decide +kernel]
  refine j_iload_n (pc := 189) X dX9_init_189 rfl ?_
  refine j_if_eq (pc := 190) (tgt := 197) X dX9_init_190 (by decide +kernel) (fun _ => ?_) (fun h => absurd (by decide +kernel) h)
  refine j_iload (pc := 197) X dX9_init_197 rfl ?_
  refine j_if_eq (pc := 199) (tgt := 206) X dX9_init_199 (by decide +kernel) (fun h => absurd h (by decide +kernel)) (fun _ => ?_)
  refine j_iconst (pc := 202) (v := FWt 17) X dX9_init_202 (by decide +kernel) ?_
  refine j_goto (pc := 203) (tgt := 224) X dX9_init_203 (by decide +kernel) ?_
  refine j_iast (C' := m9s M (8 + 17) (FWt 17)) (pc := 224) X Yw wm1 (vp_in_nI (by decide +kernel) (by decide +kernel)) dX9_init_224 (by rw [nI_clamp (by decide +kernel)]; exact sm1 _) ?_
  refine j_iinc (pc := 225) (v := nI 18) X dX9_init_225 rfl (by decide +kernel) (by decide +kernel) rfl ?_
  refine j_goto (pc := 228) (tgt := 121) X dX9_init_228 (by decide +kernel) ?_
  exact kk _ _ _
theorem m9_18 (X : Kx (gS g 10 3690) cI cS cX9_init RX9 wsX9_init 5 rm) (Yw : Kw (gS g 10 3690) (WM cI am) A) (kk : ∀ o2 o3 o4 : Option Value, J (gS g 10 3690) (WM cI am) 5 (m9s M (8 + 18) (FWt 18)) 121 [some (.ref (am 0)), some (.int (nI 19)), o2, o3, o4] []) : J (gS g 10 3690) (WM cI am) 5 M 121 [some (.ref (am 0)), some (.int (nI 18)), o2, o3, o4] [] := by
  refine j_iload_n (pc := 121) X dX9_init_121 rfl ?_
  refine j_bipush (pc := 122) (v := nI 26) X dX9_init_122 (by decide +kernel) ?_
  refine j_icmp_ge (pc := 124) (tgt := 231) X dX9_init_124 (by decide +kernel) (fun h => absurd h (by decide +kernel)) (fun _ => ?_)
  refine j_iload_n (pc := 127) X dX9_init_127 rfl ?_
  refine j_bipush (pc := 128) (v := nI 97) X dX9_init_128 (by decide +kernel) ?_
  refine j_iadd (pc := 130) X dX9_init_130 ?_
  rw [show nI 18 + nI 97 = nI 115 by decide +kernel]
  refine j_istore_n (pc := 131) X dX9_init_131 (by decide +kernel) rfl ?_
  refine j_iload_n (pc := 132) X dX9_init_132 rfl ?_
  refine j_bipush (pc := 133) (v := nI 105) X dX9_init_133 (by decide +kernel) ?_
  refine j_icmp_eq (pc := 135) (tgt := 150) X dX9_init_135 (by decide +kernel) (fun h => absurd h (by decide +kernel)) (fun _ => ?_)
  refine j_iload_n (pc := 138) X dX9_init_138 rfl ?_
  refine j_bipush (pc := 139) (v := nI 106) X dX9_init_139 (by decide +kernel) ?_
  refine j_icmp_eq (pc := 141) (tgt := 150) X dX9_init_141 (by decide +kernel) (fun h => absurd h (by decide +kernel)) (fun _ => ?_)
  refine j_iload_n (pc := 144) X dX9_init_144 rfl ?_
  refine j_bipush (pc := 145) (v := nI 108) X dX9_init_145 (by decide +kernel) ?_
  refine j_icmp_ne (pc := 147) (tgt := 154) X dX9_init_147 (by decide +kernel) (fun _ => ?_) (fun h => absurd h (by decide +kernel))
  refine j_iconst (pc := 154) (v := nI 0) X dX9_init_154 (by decide +kernel) ?_
  refine j_istore_n (pc := 155) X dX9_init_155 (by decide +kernel) rfl ?_
  refine j_iload_n (pc := 156) X dX9_init_156 rfl ?_
  refine j_bipush (pc := 157) (v := nI 102) X dX9_init_157 (by decide +kernel) ?_
  refine j_icmp_eq (pc := 159) (tgt := 174) X dX9_init_159 (by decide +kernel) (fun h => absurd h (by decide +kernel)) (fun _ => ?_)
  refine j_iload_n (pc := 162) X dX9_init_162 rfl ?_
  refine j_bipush (pc := 163) (v := nI 114) X dX9_init_163 (by decide +kernel) ?_
  refine j_icmp_eq (pc := 165) (tgt := 174) X dX9_init_165 (by decide +kernel) (fun h => absurd h (by decide +kernel)) (fun _ => ?_)
  refine j_iload_n (pc := 168) X dX9_init_168 rfl ?_
  refine j_bipush (pc := 169) (v := nI 116) X dX9_init_169 (by decide +kernel) ?_
  refine j_icmp_ne (pc := 171) (tgt := 178) X dX9_init_171 (by decide +kernel) (fun _ => ?_) (fun h => absurd h (by decide +kernel))
  refine j_iconst (pc := 178) (v := nI 0) X dX9_init_178 (by decide +kernel) ?_
  refine j_istore (pc := 179) X dX9_init_179 (by decide +kernel) rfl ?_
  refine j_aload_n (pc := 181) X dX9_init_181 rfl ?_
  refine j_get (pc := 182) X iwi_X9_init_X9 wm0 rfl 0 (Nat.le_of_ble_eq_true rfl) lki_X9_7 (v := .ref (am 1)) rfl dX9_init_182 ?_
  refine j_bipush (pc := 185) (v := nI 8) X dX9_init_185 (by decide +kernel) ?_
  refine j_iload_n (pc := 187) X dX9_init_187 rfl ?_
  refine j_iadd (pc := 188) X dX9_init_188 ?_
  rw [show nI 8 + nI 18 = nI 26 by decide +kernel]
  refine j_iload_n (pc := 189) X dX9_init_189 rfl ?_
  refine j_if_eq (pc := 190) (tgt := 197) X dX9_init_190 (by decide +kernel) (fun _ => ?_) (fun h => absurd (by decide +kernel) h)
  refine j_iload (pc := 197) X dX9_init_197 rfl ?_
  refine j_if_eq (pc := 199) (tgt := 206) X dX9_init_199 (by decide +kernel) (fun _ => ?_) (fun h => absurd (by decide +kernel) h)
  refine j_iload_n (pc := 206) X dX9_init_206 rfl ?_
  refine j_bipush (pc := 207) (v := nI 109) X dX9_init_207 (by decide +kernel) ?_
  refine j_icmp_eq (pc := 209) (tgt := 218) X dX9_init_209 (by decide +kernel) (fun h => absurd h (by decide +kernel)) (fun _ => ?_)
  refine j_iload_n (pc := 212) X dX9_init_212 rfl ?_
  refine j_bipush (pc := 213) (v := nI 119) X dX9_init_213 (by decide +kernel) ?_
  refine j_icmp_ne (pc := 215) (tgt := 223) X dX9_init_215 (by decide +kernel) (fun _ => ?_) (fun h => absurd h (by decide +kernel))
  refine j_iconst (pc := 223) (v := FWt 18) X dX9_init_223 (by decide +kernel) ?_
  refine j_iast (C' := m9s M (8 + 18) (FWt 18)) (pc := 224) X Yw wm1 (vp_in_nI (by decide +kernel) (by decide +kernel)) dX9_init_224 (by rw [nI_clamp (by decide +kernel)]; exact sm1 _) ?_
  refine j_iinc (pc := 225) (v := nI 19) X dX9_init_225 rfl (by decide +kernel) (by decide +kernel) rfl ?_
  refine j_goto (pc := 228) (tgt := 121) X dX9_init_228 (by decide +kernel) ?_
  exact kk _ _ _
theorem m9_19 (X : Kx (gS g 10 3690) cI cS cX9_init RX9 wsX9_init 5 rm) (Yw : Kw (gS g 10 3690) (WM cI am) A) (kk : ∀ o2 o3 o4 : Option Value, J (gS g 10 3690) (WM cI am) 5 (m9s M (8 + 19) (FWt 19)) 121 [some (.ref (am 0)), some (.int (nI 20)), o2, o3, o4] []) : J (gS g 10 3690) (WM cI am) 5 M 121 [some (.ref (am 0)), some (.int (nI 19)), o2, o3, o4] [] := by
  refine j_iload_n (pc := 121) X dX9_init_121 rfl ?_
  refine j_bipush (pc := 122) (v := nI 26) X dX9_init_122 (by decide +kernel) ?_
  refine j_icmp_ge (pc := 124) (tgt := 231) X dX9_init_124 (by decide +kernel) (fun h => absurd h (by decide +kernel)) (fun _ => ?_)
  refine j_iload_n (pc := 127) X dX9_init_127 rfl ?_
  refine j_bipush (pc := 128) (v := nI 97) X dX9_init_128 (by decide +kernel) ?_
  refine j_iadd (pc := 130) X dX9_init_130 ?_
  rw [show nI 19 + nI 97 = nI 116 by decide +kernel]
  refine j_istore_n (pc := 131) X dX9_init_131 (by decide +kernel) rfl ?_
  refine j_iload_n (pc := 132) X dX9_init_132 rfl ?_
  refine j_bipush (pc := 133) (v := nI 105) X dX9_init_133 (by decide +kernel) ?_
  refine j_icmp_eq (pc := 135) (tgt := 150) X dX9_init_135 (by decide +kernel) (fun h => absurd h (by decide +kernel)) (fun _ => ?_)
  refine j_iload_n (pc := 138) X dX9_init_138 rfl ?_
  refine j_bipush (pc := 139) (v := nI 106) X dX9_init_139 (by decide +kernel) ?_
  refine j_icmp_eq (pc := 141) (tgt := 150) X dX9_init_141 (by decide +kernel) (fun h => absurd h (by decide +kernel)) (fun _ => ?_)
  refine j_iload_n (pc := 144) X dX9_init_144 rfl ?_
  refine j_bipush (pc := 145) (v := nI 108) X dX9_init_145 (by decide +kernel) ?_
  refine j_icmp_ne (pc := 147) (tgt := 154) X dX9_init_147 (by decide +kernel) (fun _ => ?_) (fun h => absurd h (by decide +kernel))
  refine j_iconst (pc := 154) (v := nI 0) X dX9_init_154 (by decide +kernel) ?_
  refine j_istore_n (pc := 155) X dX9_init_155 (by decide +kernel) rfl ?_
  refine j_iload_n (pc := 156) X dX9_init_156 rfl ?_
  refine j_bipush (pc := 157) (v := nI 102) X dX9_init_157 (by decide +kernel) ?_
  refine j_icmp_eq (pc := 159) (tgt := 174) X dX9_init_159 (by decide +kernel) (fun h => absurd h (by decide +kernel)) (fun _ => ?_)
  refine j_iload_n (pc := 162) X dX9_init_162 rfl ?_
  refine j_bipush (pc := 163) (v := nI 114) X dX9_init_163 (by decide +kernel) ?_
  refine j_icmp_eq (pc := 165) (tgt := 174) X dX9_init_165 (by decide +kernel) (fun h => absurd h (by decide +kernel)) (fun _ => ?_)
  refine j_iload_n (pc := 168) X dX9_init_168 rfl ?_
  refine j_bipush (pc := 169) (v := nI 116) X dX9_init_169 (by decide +kernel) ?_
  refine j_icmp_ne (pc := 171) (tgt := 178) X dX9_init_171 (by decide +kernel) (fun h => absurd (by decide +kernel) h) (fun _ => ?_)
  refine j_iconst (pc := 174) (v := nI 1) X dX9_init_174 (by decide +kernel) ?_
  refine j_goto (pc := 175) (tgt := 179) X dX9_init_175 (by decide +kernel) ?_
  refine j_istore (pc := 179) X dX9_init_179 (by decide +kernel) rfl ?_
  refine j_aload_n (pc := 181) X dX9_init_181 rfl ?_
  refine j_get (pc := 182) X iwi_X9_init_X9 wm0 rfl 0 (Nat.le_of_ble_eq_true rfl) lki_X9_7 (v := .ref (am 1)) rfl dX9_init_182 ?_
  refine j_bipush (pc := 185) (v := nI 8) X dX9_init_185 (by decide +kernel) ?_
  refine j_iload_n (pc := 187) X dX9_init_187 rfl ?_
  refine j_iadd (pc := 188) X dX9_init_188 ?_
  rw [show nI 8 + nI 19 = nI 27 by decide +kernel]
  refine j_iload_n (pc := 189) X dX9_init_189 rfl ?_
  refine j_if_eq (pc := 190) (tgt := 197) X dX9_init_190 (by decide +kernel) (fun _ => ?_) (fun h => absurd (by decide +kernel) h)
  refine j_iload (pc := 197) X dX9_init_197 rfl ?_
  refine j_if_eq (pc := 199) (tgt := 206) X dX9_init_199 (by decide +kernel) (fun h => absurd h (by decide +kernel)) (fun _ => ?_)
  refine j_iconst (pc := 202) (v := FWt 19) X dX9_init_202 (by decide +kernel) ?_
  refine j_goto (pc := 203) (tgt := 224) X dX9_init_203 (by decide +kernel) ?_
  refine j_iast (C' := m9s M (8 + 19) (FWt 19)) (pc := 224) X Yw wm1 (vp_in_nI (by decide +kernel) (by decide +kernel)) dX9_init_224 (by rw [nI_clamp (by decide +kernel)]; exact sm1 _) ?_
  refine j_iinc (pc := 225) (v := nI 20) X dX9_init_225 rfl (by decide +kernel) (by decide +kernel) rfl ?_
  refine j_goto (pc := 228) (tgt := 121) X dX9_init_228 (by decide +kernel) ?_
  exact kk _ _ _
theorem m9_20 (X : Kx (gS g 10 3690) cI cS cX9_init RX9 wsX9_init 5 rm) (Yw : Kw (gS g 10 3690) (WM cI am) A) (kk : ∀ o2 o3 o4 : Option Value, J (gS g 10 3690) (WM cI am) 5 (m9s M (8 + 20) (FWt 20)) 121 [some (.ref (am 0)), some (.int (nI 21)), o2, o3, o4] []) : J (gS g 10 3690) (WM cI am) 5 M 121 [some (.ref (am 0)), some (.int (nI 20)), o2, o3, o4] [] := by
  refine j_iload_n (pc := 121) X dX9_init_121 rfl ?_
  refine j_bipush (pc := 122) (v := nI 26) X dX9_init_122 (by decide +kernel) ?_
  refine j_icmp_ge (pc := 124) (tgt := 231) X dX9_init_124 (by decide +kernel) (fun h => absurd h (by decide +kernel)) (fun _ => ?_)
  refine j_iload_n (pc := 127) X dX9_init_127 rfl ?_
  refine j_bipush (pc := 128) (v := nI 97) X dX9_init_128 (by decide +kernel) ?_
  refine j_iadd (pc := 130) X dX9_init_130 ?_
  rw [show nI 20 + nI 97 = nI 117 by decide +kernel]
  refine j_istore_n (pc := 131) X dX9_init_131 (by decide +kernel) rfl ?_
  refine j_iload_n (pc := 132) X dX9_init_132 rfl ?_
  refine j_bipush (pc := 133) (v := nI 105) X dX9_init_133 (by decide +kernel) ?_
  refine j_icmp_eq (pc := 135) (tgt := 150) X dX9_init_135 (by decide +kernel) (fun h => absurd h (by decide +kernel)) (fun _ => ?_)
  refine j_iload_n (pc := 138) X dX9_init_138 rfl ?_
  refine j_bipush (pc := 139) (v := nI 106) X dX9_init_139 (by decide +kernel) ?_
  refine j_icmp_eq (pc := 141) (tgt := 150) X dX9_init_141 (by decide +kernel) (fun h => absurd h (by decide +kernel)) (fun _ => ?_)
  refine j_iload_n (pc := 144) X dX9_init_144 rfl ?_
  refine j_bipush (pc := 145) (v := nI 108) X dX9_init_145 (by decide +kernel) ?_
  refine j_icmp_ne (pc := 147) (tgt := 154) X dX9_init_147 (by decide +kernel) (fun _ => ?_) (fun h => absurd h (by decide +kernel))
  refine j_iconst (pc := 154) (v := nI 0) X dX9_init_154 (by decide +kernel) ?_
  refine j_istore_n (pc := 155) X dX9_init_155 (by decide +kernel) rfl ?_
  refine j_iload_n (pc := 156) X dX9_init_156 rfl ?_
  refine j_bipush (pc := 157) (v := nI 102) X dX9_init_157 (by decide +kernel) ?_
  refine j_icmp_eq (pc := 159) (tgt := 174) X dX9_init_159 (by decide +kernel) (fun h => absurd h (by decide +kernel)) (fun _ => ?_)
  refine j_iload_n (pc := 162) X dX9_init_162 rfl ?_
  refine j_bipush (pc := 163) (v := nI 114) X dX9_init_163 (by decide +kernel) ?_
  refine j_icmp_eq (pc := 165) (tgt := 174) X dX9_init_165 (by decide +kernel) (fun h => absurd h (by decide +kernel)) (fun _ => ?_)
  refine j_iload_n (pc := 168) X dX9_init_168 rfl ?_
  refine j_bipush (pc := 169) (v := nI 116) X dX9_init_169 (by decide +kernel) ?_
  refine j_icmp_ne (pc := 171) (tgt := 178) X dX9_init_171 (by decide +kernel) (fun _ => ?_) (fun h => absurd h (by decide +kernel))
  refine j_iconst (pc := 178) (v := nI 0) X dX9_init_178 (by decide +kernel) ?_
  refine j_istore (pc := 179) X dX9_init_179 (by decide +kernel) rfl ?_
  refine j_aload_n (pc := 181) X dX9_init_181 rfl ?_
  refine j_get (pc := 182) X iwi_X9_init_X9 wm0 rfl 0 (Nat.le_of_ble_eq_true rfl) lki_X9_7 (v := .ref (am 1)) rfl dX9_init_182 ?_
  refine j_bipush (pc := 185) (v := nI 8) X dX9_init_185 (by decide +kernel) ?_
  refine j_iload_n (pc := 187) X dX9_init_187 rfl ?_
  refine j_iadd (pc := 188) X dX9_init_188 ?_
  rw [show nI 8 + nI 20 = nI 28 by decide +kernel]
  refine j_iload_n (pc := 189) X dX9_init_189 rfl ?_
  refine j_if_eq (pc := 190) (tgt := 197) X dX9_init_190 (by decide +kernel) (fun _ => ?_) (fun h => absurd (by decide +kernel) h)
  refine j_iload (pc := 197) X dX9_init_197 rfl ?_
  refine j_if_eq (pc := 199) (tgt := 206) X dX9_init_199 (by decide +kernel) (fun _ => ?_) (fun h => absurd (by decide +kernel) h)
  refine j_iload_n (pc := 206) X dX9_init_206 rfl ?_
  refine j_bipush (pc := 207) (v := nI 109) X dX9_init_207 (by decide +kernel) ?_
  refine j_icmp_eq (pc := 209) (tgt := 218) X dX9_init_209 (by decide +kernel) (fun h => absurd h (by decide +kernel)) (fun _ => ?_)
  refine j_iload_n (pc := 212) X dX9_init_212 rfl ?_
  refine j_bipush (pc := 213) (v := nI 119) X dX9_init_213 (by decide +kernel) ?_
  refine j_icmp_ne (pc := 215) (tgt := 223) X dX9_init_215 (by decide +kernel) (fun _ => ?_) (fun h => absurd h (by decide +kernel))
  refine j_iconst (pc := 223) (v := FWt 20) X dX9_init_223 (by decide +kernel) ?_
  refine j_iast (C' := m9s M (8 + 20) (FWt 20)) (pc := 224) X Yw wm1 (vp_in_nI (by decide +kernel) (by decide +kernel)) dX9_init_224 (by rw [nI_clamp (by decide +kernel)]; exact sm1 _) ?_
  refine j_iinc (pc := 225) (v := nI 21) X dX9_init_225 rfl (by decide +kernel) (by decide +kernel) rfl ?_
  refine j_goto (pc := 228) (tgt := 121) X dX9_init_228 (by decide +kernel) ?_
  exact kk _ _ _
theorem m9_21 (X : Kx (gS g 10 3690) cI cS cX9_init RX9 wsX9_init 5 rm) (Yw : Kw (gS g 10 3690) (WM cI am) A) (kk : ∀ o2 o3 o4 : Option Value, J (gS g 10 3690) (WM cI am) 5 (m9s M (8 + 21) (FWt 21)) 121 [some (.ref (am 0)), some (.int (nI 22)), o2, o3, o4] []) : J (gS g 10 3690) (WM cI am) 5 M 121 [some (.ref (am 0)), some (.int (nI 21)), o2, o3, o4] [] := by
  refine j_iload_n (pc := 121) X dX9_init_121 rfl ?_
  refine j_bipush (pc := 122) (v := nI 26) X dX9_init_122 (by decide +kernel) ?_
  refine j_icmp_ge (pc := 124) (tgt := 231) X dX9_init_124 (by decide +kernel) (fun h => absurd h (by decide +kernel)) (fun _ => ?_)
  refine j_iload_n (pc := 127) X dX9_init_127 rfl ?_
  refine j_bipush (pc := 128) (v := nI 97) X dX9_init_128 (by decide +kernel) ?_
  refine j_iadd (pc := 130) X dX9_init_130 ?_
  rw [show nI 21 + nI 97 = nI 118 by decide +kernel]
  refine j_istore_n (pc := 131) X dX9_init_131 (by decide +kernel) rfl ?_
  refine j_iload_n (pc := 132) X dX9_init_132 rfl ?_
  refine j_bipush (pc := 133) (v := nI 105) X dX9_init_133 (by decide +kernel) ?_
  refine j_icmp_eq (pc := 135) (tgt := 150) X dX9_init_135 (by decide +kernel) (fun h => absurd h (by decide +kernel)) (fun _ => ?_)
  refine j_iload_n (pc := 138) X dX9_init_138 rfl ?_
  refine j_bipush (pc := 139) (v := nI 106) X dX9_init_139 (by decide +kernel) ?_
  refine j_icmp_eq (pc := 141) (tgt := 150) X dX9_init_141 (by decide +kernel) (fun h => absurd h (by decide +kernel)) (fun _ => ?_)
  refine j_iload_n (pc := 144) X dX9_init_144 rfl ?_
  refine j_bipush (pc := 145) (v := nI 108) X dX9_init_145 (by decide +kernel) ?_
  refine j_icmp_ne (pc := 147) (tgt := 154) X dX9_init_147 (by decide +kernel) (fun _ => ?_) (fun h => absurd h (by decide +kernel))
  refine j_iconst (pc := 154) (v := nI 0) X dX9_init_154 (by decide +kernel) ?_
  refine j_istore_n (pc := 155) X dX9_init_155 (by decide +kernel) rfl ?_
  refine j_iload_n (pc := 156) X dX9_init_156 rfl ?_
  refine j_bipush (pc := 157) (v := nI 102) X dX9_init_157 (by decide +kernel) ?_
  refine j_icmp_eq (pc := 159) (tgt := 174) X dX9_init_159 (by decide +kernel) (fun h => absurd h (by decide +kernel)) (fun _ => ?_)
  refine j_iload_n (pc := 162) X dX9_init_162 rfl ?_
  refine j_bipush (pc := 163) (v := nI 114) X dX9_init_163 (by decide +kernel) ?_
  refine j_icmp_eq (pc := 165) (tgt := 174) X dX9_init_165 (by decide +kernel) (fun h => absurd h (by decide +kernel)) (fun _ => ?_)
  refine j_iload_n (pc := 168) X dX9_init_168 rfl ?_
  refine j_bipush (pc := 169) (v := nI 116) X dX9_init_169 (by decide +kernel) ?_
  refine j_icmp_ne (pc := 171) (tgt := 178) X dX9_init_171 (by decide +kernel) (fun _ => ?_) (fun h => absurd h (by decide +kernel))
  refine j_iconst (pc := 178) (v := nI 0) X dX9_init_178 (by decide +kernel) ?_
  refine j_istore (pc := 179) X dX9_init_179 (by decide +kernel) rfl ?_
  refine j_aload_n (pc := 181) X dX9_init_181 rfl ?_
  refine j_get (pc := 182) X iwi_X9_init_X9 wm0 rfl 0 (Nat.le_of_ble_eq_true rfl) lki_X9_7 (v := .ref (am 1)) rfl dX9_init_182 ?_
  refine j_bipush (pc := 185) (v := nI 8) X dX9_init_185 (by decide +kernel) ?_
  refine j_iload_n (pc := 187) X dX9_init_187 rfl ?_
  refine j_iadd (pc := 188) X dX9_init_188 ?_
  rw [show nI 8 + nI 21 = nI 29 by decide +kernel]
  refine j_iload_n (pc := 189) X dX9_init_189 rfl ?_
  refine j_if_eq (pc := 190) (tgt := 197) X dX9_init_190 (by decide +kernel) (fun _ => ?_) (fun h => absurd (by decide +kernel) h)
  refine j_iload (pc := 197) X dX9_init_197 rfl ?_
  refine j_if_eq (pc := 199) (tgt := 206) X dX9_init_199 (by decide +kernel) (fun _ => ?_) (fun h => absurd (by decide +kernel) h)
  refine j_iload_n (pc := 206) X dX9_init_206 rfl ?_
  refine j_bipush (pc := 207) (v := nI 109) X dX9_init_207 (by decide +kernel) ?_
  refine j_icmp_eq (pc := 209) (tgt := 218) X dX9_init_209 (by decide +kernel) (fun h => absurd h (by decide +kernel)) (fun _ => ?_)
  refine j_iload_n (pc := 212) X dX9_init_212 rfl ?_
  refine j_bipush (pc := 213) (v := nI 119) X dX9_init_213 (by decide +kernel) ?_
  refine j_icmp_ne (pc := 215) (tgt := 223) X dX9_init_215 (by decide +kernel) (fun _ => ?_) (fun h => absurd h (by decide +kernel))
  refine j_iconst (pc := 223) (v := FWt 21) X dX9_init_223 (by decide +kernel) ?_
  refine j_iast (C' := m9s M (8 + 21) (FWt 21)) (pc := 224) X Yw wm1 (vp_in_nI (by decide +kernel) (by decide +kernel)) dX9_init_224 (by rw [nI_clamp (by decide +kernel)]; exact sm1 _) ?_
  refine j_iinc (pc := 225) (v := nI 22) X dX9_init_225 rfl (by decide +kernel) (by decide +kernel) rfl ?_
  refine j_goto (pc := 228) (tgt := 121) X dX9_init_228 (by decide +kernel) ?_
  exact kk _ _ _
theorem m9_22 (X : Kx (gS g 10 3690) cI cS cX9_init RX9 wsX9_init 5 rm) (Yw : Kw (gS g 10 3690) (WM cI am) A) (kk : ∀ o2 o3 o4 : Option Value, J (gS g 10 3690) (WM cI am) 5 (m9s M (8 + 22) (FWt 22)) 121 [some (.ref (am 0)), some (.int (nI 23)), o2, o3, o4] []) : J (gS g 10 3690) (WM cI am) 5 M 121 [some (.ref (am 0)), some (.int (nI 22)), o2, o3, o4] [] := by
  refine j_iload_n (pc := 121) X dX9_init_121 rfl ?_
  refine j_bipush (pc := 122) (v := nI 26) X dX9_init_122 (by decide +kernel) ?_
  refine j_icmp_ge (pc := 124) (tgt := 231) X dX9_init_124 (by decide +kernel) (fun h => absurd h (by decide +kernel)) (fun _ => ?_)
  refine j_iload_n (pc := 127) X dX9_init_127 rfl ?_
  refine j_bipush (pc := 128) (v := nI 97) X dX9_init_128 (by decide +kernel) ?_
  refine j_iadd (pc := 130) X dX9_init_130 ?_
  rw [show nI 22 + nI 97 = nI 119 by decide +kernel]
  refine j_istore_n (pc := 131) X dX9_init_131 (by decide +kernel) rfl ?_
  refine j_iload_n (pc := 132) X dX9_init_132 rfl ?_
  refine j_bipush (pc := 133) (v := nI 105) X dX9_init_133 (by decide +kernel) ?_
  refine j_icmp_eq (pc := 135) (tgt := 150) X dX9_init_135 (by decide +kernel) (fun h => absurd h (by decide +kernel)) (fun _ => ?_)
  refine j_iload_n (pc := 138) X dX9_init_138 rfl ?_
  refine j_bipush (pc := 139) (v := nI 106) X dX9_init_139 (by decide +kernel) ?_
  refine j_icmp_eq (pc := 141) (tgt := 150) X dX9_init_141 (by decide +kernel) (fun h => absurd h (by decide +kernel)) (fun _ => ?_)
  refine j_iload_n (pc := 144) X dX9_init_144 rfl ?_
  refine j_bipush (pc := 145) (v := nI 108) X dX9_init_145 (by decide +kernel) ?_
  refine j_icmp_ne (pc := 147) (tgt := 154) X dX9_init_147 (by decide +kernel) (fun _ => ?_) (fun h => absurd h (by decide +kernel))
  refine j_iconst (pc := 154) (v := nI 0) X dX9_init_154 (by decide +kernel) ?_
  refine j_istore_n (pc := 155) X dX9_init_155 (by decide +kernel) rfl ?_
  refine j_iload_n (pc := 156) X dX9_init_156 rfl ?_
  refine j_bipush (pc := 157) (v := nI 102) X dX9_init_157 (by decide +kernel) ?_
  refine j_icmp_eq (pc := 159) (tgt := 174) X dX9_init_159 (by decide +kernel) (fun h => absurd h (by decide +kernel)) (fun _ => ?_)
  refine j_iload_n (pc := 162) X dX9_init_162 rfl ?_
  refine j_bipush (pc := 163) (v := nI 114) X dX9_init_163 (by decide +kernel) ?_
  refine j_icmp_eq (pc := 165) (tgt := 174) X dX9_init_165 (by decide +kernel) (fun h => absurd h (by decide +kernel)) (fun _ => ?_)
  refine j_iload_n (pc := 168) X dX9_init_168 rfl ?_
  refine j_bipush (pc := 169) (v := nI 116) X dX9_init_169 (by decide +kernel) ?_
  refine j_icmp_ne (pc := 171) (tgt := 178) X dX9_init_171 (by decide +kernel) (fun _ => ?_) (fun h => absurd h (by decide +kernel))
  refine j_iconst (pc := 178) (v := nI 0) X dX9_init_178 (by decide +kernel) ?_
  refine j_istore (pc := 179) X dX9_init_179 (by decide +kernel) rfl ?_
  refine j_aload_n (pc := 181) X dX9_init_181 rfl ?_
  refine j_get (pc := 182) X iwi_X9_init_X9 wm0 rfl 0 (Nat.le_of_ble_eq_true rfl) lki_X9_7 (v := .ref (am 1)) rfl dX9_init_182 ?_
  refine j_bipush (pc := 185) (v := nI 8) X dX9_init_185 (by decide +kernel) ?_
  refine j_iload_n (pc := 187) X dX9_init_187 rfl ?_
  refine j_iadd (pc := 188) X dX9_init_188 ?_
  rw [show nI 8 + nI 22 = nI 30 by decide +kernel]
  refine j_iload_n (pc := 189) X dX9_init_189 rfl ?_
  refine j_if_eq (pc := 190) (tgt := 197) X dX9_init_190 (by decide +kernel) (fun _ => ?_) (fun h => absurd (by decide +kernel) h)
  refine j_iload (pc := 197) X dX9_init_197 rfl ?_
  refine j_if_eq (pc := 199) (tgt := 206) X dX9_init_199 (by decide +kernel) (fun _ => ?_) (fun h => absurd (by decide +kernel) h)
  refine j_iload_n (pc := 206) X dX9_init_206 rfl ?_
  refine j_bipush (pc := 207) (v := nI 109) X dX9_init_207 (by decide +kernel) ?_
  refine j_icmp_eq (pc := 209) (tgt := 218) X dX9_init_209 (by decide +kernel) (fun h => absurd h (by decide +kernel)) (fun _ => ?_)
  refine j_iload_n (pc := 212) X dX9_init_212 rfl ?_
  refine j_bipush (pc := 213) (v := nI 119) X dX9_init_213 (by decide +kernel) ?_
  refine j_icmp_ne (pc := 215) (tgt := 223) X dX9_init_215 (by decide +kernel) (fun h => absurd (by decide +kernel) h) (fun _ => ?_)
  refine j_bipush (pc := 218) (v := FWt 22) X dX9_init_218 (by decide +kernel) ?_
  refine j_goto (pc := 220) (tgt := 224) X dX9_init_220 (by decide +kernel) ?_
  refine j_iast (C' := m9s M (8 + 22) (FWt 22)) (pc := 224) X Yw wm1 (vp_in_nI (by decide +kernel) (by decide +kernel)) dX9_init_224 (by rw [nI_clamp (by decide +kernel)]; exact sm1 _) ?_
  refine j_iinc (pc := 225) (v := nI 23) X dX9_init_225 rfl (by decide +kernel) (by decide +kernel) rfl ?_
  refine j_goto (pc := 228) (tgt := 121) X dX9_init_228 (by decide +kernel) ?_
  exact kk _ _ _
theorem m9_23 (X : Kx (gS g 10 3690) cI cS cX9_init RX9 wsX9_init 5 rm) (Yw : Kw (gS g 10 3690) (WM cI am) A) (kk : ∀ o2 o3 o4 : Option Value, J (gS g 10 3690) (WM cI am) 5 (m9s M (8 + 23) (FWt 23)) 121 [some (.ref (am 0)), some (.int (nI 24)), o2, o3, o4] []) : J (gS g 10 3690) (WM cI am) 5 M 121 [some (.ref (am 0)), some (.int (nI 23)), o2, o3, o4] [] := by
  refine j_iload_n (pc := 121) X dX9_init_121 rfl ?_
  refine j_bipush (pc := 122) (v := nI 26) X dX9_init_122 (by decide +kernel) ?_
  refine j_icmp_ge (pc := 124) (tgt := 231) X dX9_init_124 (by decide +kernel) (fun h => absurd h (by decide +kernel)) (fun _ => ?_)
  refine j_iload_n (pc := 127) X dX9_init_127 rfl ?_
  refine j_bipush (pc := 128) (v := nI 97) X dX9_init_128 (by decide +kernel) ?_
  refine j_iadd (pc := 130) X dX9_init_130 ?_
  rw [show nI 23 + nI 97 = nI 120 by decide +kernel]
  refine j_istore_n (pc := 131) X dX9_init_131 (by decide +kernel) rfl ?_
  refine j_iload_n (pc := 132) X dX9_init_132 rfl ?_
  refine j_bipush (pc := 133) (v := nI 105) X dX9_init_133 (by decide +kernel) ?_
  refine j_icmp_eq (pc := 135) (tgt := 150) X dX9_init_135 (by decide +kernel) (fun h => absurd h (by decide +kernel)) (fun _ => ?_)
  refine j_iload_n (pc := 138) X dX9_init_138 rfl ?_
  refine j_bipush (pc := 139) (v := nI 106) X dX9_init_139 (by decide +kernel) ?_
  refine j_icmp_eq (pc := 141) (tgt := 150) X dX9_init_141 (by decide +kernel) (fun h => absurd h (by decide +kernel)) (fun _ => ?_)
  refine j_iload_n (pc := 144) X dX9_init_144 rfl ?_
  refine j_bipush (pc := 145) (v := nI 108) X dX9_init_145 (by decide +kernel) ?_
  refine j_icmp_ne (pc := 147) (tgt := 154) X dX9_init_147 (by decide +kernel) (fun _ => ?_) (fun h => absurd h (by decide +kernel))
  refine j_iconst (pc := 154) (v := nI 0) X dX9_init_154 (by decide +kernel) ?_
  refine j_istore_n (pc := 155) X dX9_init_155 (by decide +kernel) rfl ?_
  refine j_iload_n (pc := 156) X dX9_init_156 rfl ?_
  refine j_bipush (pc := 157) (v := nI 102) X dX9_init_157 (by decide +kernel) ?_
  refine j_icmp_eq (pc := 159) (tgt := 174) X dX9_init_159 (by decide +kernel) (fun h => absurd h (by decide +kernel)) (fun _ => ?_)
  refine j_iload_n (pc := 162) X dX9_init_162 rfl ?_
  refine j_bipush (pc := 163) (v := nI 114) X dX9_init_163 (by decide +kernel) ?_
  refine j_icmp_eq (pc := 165) (tgt := 174) X dX9_init_165 (by decide +kernel) (fun h => absurd h (by decide +kernel)) (fun _ => ?_)
  refine j_iload_n (pc := 168) X dX9_init_168 rfl ?_
  refine j_bipush (pc := 169) (v := nI 116) X dX9_init_169 (by decide +kernel) ?_
  refine j_icmp_ne (pc := 171) (tgt := 178) X dX9_init_171 (by decide +kernel) (fun _ => ?_) (fun h => absurd h (by decide +kernel))
  refine j_iconst (pc := 178) (v := nI 0) X dX9_init_178 (by decide +kernel) ?_
  refine j_istore (pc := 179) X dX9_init_179 (by decide +kernel) rfl ?_
  refine j_aload_n (pc := 181) X dX9_init_181 rfl ?_
  refine j_get (pc := 182) X iwi_X9_init_X9 wm0 rfl 0 (Nat.le_of_ble_eq_true rfl) lki_X9_7 (v := .ref (am 1)) rfl dX9_init_182 ?_
  refine j_bipush (pc := 185) (v := nI 8) X dX9_init_185 (by decide +kernel) ?_
  refine j_iload_n (pc := 187) X dX9_init_187 rfl ?_
  refine j_iadd (pc := 188) X dX9_init_188 ?_
  rw [show nI 8 + nI 23 = nI 31 by decide +kernel]
  refine j_iload_n (pc := 189) X dX9_init_189 rfl ?_
  refine j_if_eq (pc := 190) (tgt := 197) X dX9_init_190 (by decide +kernel) (fun _ => ?_) (fun h => absurd (by decide +kernel) h)
  refine j_iload (pc := 197) X dX9_init_197 rfl ?_
  refine j_if_eq (pc := 199) (tgt := 206) X dX9_init_199 (by decide +kernel) (fun _ => ?_) (fun h => absurd (by decide +kernel) h)
  refine j_iload_n (pc := 206) X dX9_init_206 rfl ?_
  refine j_bipush (pc := 207) (v := nI 109) X dX9_init_207 (by decide +kernel) ?_
  refine j_icmp_eq (pc := 209) (tgt := 218) X dX9_init_209 (by decide +kernel) (fun h => absurd h (by decide +kernel)) (fun _ => ?_)
  refine j_iload_n (pc := 212) X dX9_init_212 rfl ?_
  refine j_bipush (pc := 213) (v := nI 119) X dX9_init_213 (by decide +kernel) ?_
  refine j_icmp_ne (pc := 215) (tgt := 223) X dX9_init_215 (by decide +kernel) (fun _ => ?_) (fun h => absurd h (by decide +kernel))
  refine j_iconst (pc := 223) (v := FWt 23) X dX9_init_223 (by decide +kernel) ?_
  refine j_iast (C' := m9s M (8 + 23) (FWt 23)) (pc := 224) X Yw wm1 (vp_in_nI (by decide +kernel) (by decide +kernel)) dX9_init_224 (by rw [nI_clamp (by decide +kernel)]; exact sm1 _) ?_
  refine j_iinc (pc := 225) (v := nI 24) X dX9_init_225 rfl (by decide +kernel) (by decide +kernel) rfl ?_
  refine j_goto (pc := 228) (tgt := 121) X dX9_init_228 (by decide +kernel) ?_
  exact kk _ _ _
theorem m9_24 (X : Kx (gS g 10 3690) cI cS cX9_init RX9 wsX9_init 5 rm) (Yw : Kw (gS g 10 3690) (WM cI am) A) (kk : ∀ o2 o3 o4 : Option Value, J (gS g 10 3690) (WM cI am) 5 (m9s M (8 + 24) (FWt 24)) 121 [some (.ref (am 0)), some (.int (nI 25)), o2, o3, o4] []) : J (gS g 10 3690) (WM cI am) 5 M 121 [some (.ref (am 0)), some (.int (nI 24)), o2, o3, o4] [] := by
  refine j_iload_n (pc := 121) X dX9_init_121 rfl ?_
  refine j_bipush (pc := 122) (v := nI 26) X dX9_init_122 (by decide +kernel) ?_
  refine j_icmp_ge (pc := 124) (tgt := 231) X dX9_init_124 (by decide +kernel) (fun h => absurd h (by decide +kernel)) (fun _ => ?_)
  refine j_iload_n (pc := 127) X dX9_init_127 rfl ?_
  refine j_bipush (pc := 128) (v := nI 97) X dX9_init_128 (by decide +kernel) ?_
  refine j_iadd (pc := 130) X dX9_init_130 ?_
  rw [show nI 24 + nI 97 = nI 121 by decide +kernel]
  refine j_istore_n (pc := 131) X dX9_init_131 (by decide +kernel) rfl ?_
  refine j_iload_n (pc := 132) X dX9_init_132 rfl ?_
  refine j_bipush (pc := 133) (v := nI 105) X dX9_init_133 (by decide +kernel) ?_
  refine j_icmp_eq (pc := 135) (tgt := 150) X dX9_init_135 (by decide +kernel) (fun h => absurd h (by decide +kernel)) (fun _ => ?_)
  refine j_iload_n (pc := 138) X dX9_init_138 rfl ?_
  refine j_bipush (pc := 139) (v := nI 106) X dX9_init_139 (by decide +kernel) ?_
  refine j_icmp_eq (pc := 141) (tgt := 150) X dX9_init_141 (by decide +kernel) (fun h => absurd h (by decide +kernel)) (fun _ => ?_)
  refine j_iload_n (pc := 144) X dX9_init_144 rfl ?_
  refine j_bipush (pc := 145) (v := nI 108) X dX9_init_145 (by decide +kernel) ?_
  refine j_icmp_ne (pc := 147) (tgt := 154) X dX9_init_147 (by decide +kernel) (fun _ => ?_) (fun h => absurd h (by decide +kernel))
  refine j_iconst (pc := 154) (v := nI 0) X dX9_init_154 (by decide +kernel) ?_
  refine j_istore_n (pc := 155) X dX9_init_155 (by decide +kernel) rfl ?_
  refine j_iload_n (pc := 156) X dX9_init_156 rfl ?_
  refine j_bipush (pc := 157) (v := nI 102) X dX9_init_157 (by decide +kernel) ?_
  refine j_icmp_eq (pc := 159) (tgt := 174) X dX9_init_159 (by decide +kernel) (fun h => absurd h (by decide +kernel)) (fun _ => ?_)
  refine j_iload_n (pc := 162) X dX9_init_162 rfl ?_
  refine j_bipush (pc := 163) (v := nI 114) X dX9_init_163 (by decide +kernel) ?_
  refine j_icmp_eq (pc := 165) (tgt := 174) X dX9_init_165 (by decide +kernel) (fun h => absurd h (by decide +kernel)) (fun _ => ?_)
  refine j_iload_n (pc := 168) X dX9_init_168 rfl ?_
  refine j_bipush (pc := 169) (v := nI 116) X dX9_init_169 (by decide +kernel) ?_
  refine j_icmp_ne (pc := 171) (tgt := 178) X dX9_init_171 (by decide +kernel) (fun _ => ?_) (fun h => absurd h (by decide +kernel))
  refine j_iconst (pc := 178) (v := nI 0) X dX9_init_178 (by decide +kernel) ?_
  refine j_istore (pc := 179) X dX9_init_179 (by decide +kernel) rfl ?_
  refine j_aload_n (pc := 181) X dX9_init_181 rfl ?_
  refine j_get (pc := 182) X iwi_X9_init_X9 wm0 rfl 0 (Nat.le_of_ble_eq_true rfl) lki_X9_7 (v := .ref (am 1)) rfl dX9_init_182 ?_
  refine j_bipush (pc := 185) (v := nI 8) X dX9_init_185 (by decide +kernel) ?_
  refine j_iload_n (pc := 187) X dX9_init_187 rfl ?_
  refine j_iadd (pc := 188) X dX9_init_188 ?_
  rw [show nI 8 + nI 24 = nI 32 by decide +kernel]
  refine j_iload_n (pc := 189) X dX9_init_189 rfl ?_
  refine j_if_eq (pc := 190) (tgt := 197) X dX9_init_190 (by decide +kernel) (fun _ => ?_) (fun h => absurd (by decide +kernel) h)
  refine j_iload (pc := 197) X dX9_init_197 rfl ?_
  refine j_if_eq (pc := 199) (tgt := 206) X dX9_init_199 (by decide +kernel) (fun _ => ?_) (fun h => absurd (by decide +kernel) h)
  refine j_iload_n (pc := 206) X dX9_init_206 rfl ?_
  refine j_bipush (pc := 207) (v := nI 109) X dX9_init_207 (by decide +kernel) ?_
  refine j_icmp_eq (pc := 209) (tgt := 218) X dX9_init_209 (by decide +kernel) (fun h => absurd h (by decide +kernel)) (fun _ => ?_)
  refine j_iload_n (pc := 212) X dX9_init_212 rfl ?_
  refine j_bipush (pc := 213) (v := nI 119) X dX9_init_213 (by decide +kernel) ?_
  refine j_icmp_ne (pc := 215) (tgt := 223) X dX9_init_215 (by decide +kernel) (fun _ => ?_) (fun h => absurd h (by decide +kernel))
  refine j_iconst (pc := 223) (v := FWt 24) X dX9_init_223 (by decide +kernel) ?_
  refine j_iast (C' := m9s M (8 + 24) (FWt 24)) (pc := 224) X Yw wm1 (vp_in_nI (by decide +kernel) (by decide +kernel)) dX9_init_224 (by rw [nI_clamp (by decide +kernel)]; exact sm1 _) ?_
  refine j_iinc (pc := 225) (v := nI 25) X dX9_init_225 rfl (by decide +kernel) (by decide +kernel) rfl ?_
  refine j_goto (pc := 228) (tgt := 121) X dX9_init_228 (by decide +kernel) ?_
  exact kk _ _ _
theorem m9_25 (X : Kx (gS g 10 3690) cI cS cX9_init RX9 wsX9_init 5 rm) (Yw : Kw (gS g 10 3690) (WM cI am) A) (kk : ∀ o2 o3 o4 : Option Value, J (gS g 10 3690) (WM cI am) 5 (m9s M (8 + 25) (FWt 25)) 121 [some (.ref (am 0)), some (.int (nI 26)), o2, o3, o4] []) : J (gS g 10 3690) (WM cI am) 5 M 121 [some (.ref (am 0)), some (.int (nI 25)), o2, o3, o4] [] := by
  refine j_iload_n (pc := 121) X dX9_init_121 rfl ?_
  refine j_bipush (pc := 122) (v := nI 26) X dX9_init_122 (by decide +kernel) ?_
  refine j_icmp_ge (pc := 124) (tgt := 231) X dX9_init_124 (by decide +kernel) (fun h => absurd h (by decide +kernel)) (fun _ => ?_)
  refine j_iload_n (pc := 127) X dX9_init_127 rfl ?_
  refine j_bipush (pc := 128) (v := nI 97) X dX9_init_128 (by decide +kernel) ?_
  refine j_iadd (pc := 130) X dX9_init_130 ?_
  rw [show nI 25 + nI 97 = nI 122 by decide +kernel]
  refine j_istore_n (pc := 131) X dX9_init_131 (by decide +kernel) rfl ?_
  refine j_iload_n (pc := 132) X dX9_init_132 rfl ?_
  refine j_bipush (pc := 133) (v := nI 105) X dX9_init_133 (by decide +kernel) ?_
  refine j_icmp_eq (pc := 135) (tgt := 150) X dX9_init_135 (by decide +kernel) (fun h => absurd h (by decide +kernel)) (fun _ => ?_)
  refine j_iload_n (pc := 138) X dX9_init_138 rfl ?_
  refine j_bipush (pc := 139) (v := nI 106) X dX9_init_139 (by decide +kernel) ?_
  refine j_icmp_eq (pc := 141) (tgt := 150) X dX9_init_141 (by decide +kernel) (fun h => absurd h (by decide +kernel)) (fun _ => ?_)
  refine j_iload_n (pc := 144) X dX9_init_144 rfl ?_
  refine j_bipush (pc := 145) (v := nI 108) X dX9_init_145 (by decide +kernel) ?_
  refine j_icmp_ne (pc := 147) (tgt := 154) X dX9_init_147 (by decide +kernel) (fun _ => ?_) (fun h => absurd h (by decide +kernel))
  refine j_iconst (pc := 154) (v := nI 0) X dX9_init_154 (by decide +kernel) ?_
  refine j_istore_n (pc := 155) X dX9_init_155 (by decide +kernel) rfl ?_
  refine j_iload_n (pc := 156) X dX9_init_156 rfl ?_
  refine j_bipush (pc := 157) (v := nI 102) X dX9_init_157 (by decide +kernel) ?_
  refine j_icmp_eq (pc := 159) (tgt := 174) X dX9_init_159 (by decide +kernel) (fun h => absurd h (by decide +kernel)) (fun _ => ?_)
  refine j_iload_n (pc := 162) X dX9_init_162 rfl ?_
  refine j_bipush (pc := 163) (v := nI 114) X dX9_init_163 (by decide +kernel) ?_
  refine j_icmp_eq (pc := 165) (tgt := 174) X dX9_init_165 (by decide +kernel) (fun h => absurd h (by decide +kernel)) (fun _ => ?_)
  refine j_iload_n (pc := 168) X dX9_init_168 rfl ?_
  refine j_bipush (pc := 169) (v := nI 116) X dX9_init_169 (by decide +kernel) ?_
  refine j_icmp_ne (pc := 171) (tgt := 178) X dX9_init_171 (by decide +kernel) (fun _ => ?_) (fun h => absurd h (by decide +kernel))
  refine j_iconst (pc := 178) (v := nI 0) X dX9_init_178 (by decide +kernel) ?_
  refine j_istore (pc := 179) X dX9_init_179 (by decide +kernel) rfl ?_
  refine j_aload_n (pc := 181) X dX9_init_181 rfl ?_
  refine j_get (pc := 182) X iwi_X9_init_X9 wm0 rfl 0 (Nat.le_of_ble_eq_true rfl) lki_X9_7 (v := .ref (am 1)) rfl dX9_init_182 ?_
  refine j_bipush (pc := 185) (v := nI 8) X dX9_init_185 (by decide +kernel) ?_
  refine j_iload_n (pc := 187) X dX9_init_187 rfl ?_
  refine j_iadd (pc := 188) X dX9_init_188 ?_
  rw [show nI 8 + nI 25 = nI 33 by decide +kernel]
  refine j_iload_n (pc := 189) X dX9_init_189 rfl ?_
  refine j_if_eq (pc := 190) (tgt := 197) X dX9_init_190 (by decide +kernel) (fun _ => ?_) (fun h => absurd (by decide +kernel) h)
  refine j_iload (pc := 197) X dX9_init_197 rfl ?_
  refine j_if_eq (pc := 199) (tgt := 206) X dX9_init_199 (by decide +kernel) (fun _ => ?_) (fun h => absurd (by decide +kernel) h)
  refine j_iload_n (pc := 206) X dX9_init_206 rfl ?_
  refine j_bipush (pc := 207) (v := nI 109) X dX9_init_207 (by decide +kernel) ?_
  refine j_icmp_eq (pc := 209) (tgt := 218) X dX9_init_209 (by decide +kernel) (fun h => absurd h (by decide +kernel)) (fun _ => ?_)
  refine j_iload_n (pc := 212) X dX9_init_212 rfl ?_
  refine j_bipush (pc := 213) (v := nI 119) X dX9_init_213 (by decide +kernel) ?_
  refine j_icmp_ne (pc := 215) (tgt := 223) X dX9_init_215 (by decide +kernel) (fun _ => ?_) (fun h => absurd h (by decide +kernel))
  refine j_iconst (pc := 223) (v := FWt 25) X dX9_init_223 (by decide +kernel) ?_
  refine j_iast (C' := m9s M (8 + 25) (FWt 25)) (pc := 224) X Yw wm1 (vp_in_nI (by decide +kernel) (by decide +kernel)) dX9_init_224 (by rw [nI_clamp (by decide +kernel)]; exact sm1 _) ?_
  refine j_iinc (pc := 225) (v := nI 26) X dX9_init_225 rfl (by decide +kernel) (by decide +kernel) rfl ?_
  refine j_goto (pc := 228) (tgt := 121) X dX9_init_228 (by decide +kernel) ?_
  exact kk _ _ _
end M9
set_option maxHeartbeats 4000000 in
set_option maxRecDepth 100000 in
theorem c_X9_init (l : Launch) (D : va_G) (cI cS : ClassId) (h0 : Nat) : mC l yX9_init wsX9_init rmi_X9 D cI cS eNo h0 (.inr (9, [.null, .null, .int 0, .null, .int 0, .int 0, .null, .null, .null, .int 0, .null, .null, .null, .null, .int 0])) [] (fun am => WM cI am (mk9 26)) 10 3690 := by
  refine mC.of (cc := cX9_init) (nL := 5) (by decide +kernel) rfl rfl (Nat.le_of_ble_eq_true rfl) rfl eNo_ok (fun g A hl1 hD1 Y hD hR => ?_)
  have X := Y.x (cs := 0) (sl := 0) (Nat.zero_le _) (Nat.zero_le _)
  refine j_aload_n (pc := 0) X dX9_init_0 rfl ?_
  refine j_objInit (pc := 1) Y (by decide +kernel) (by decide +kernel) (by decide +kernel) (Nat.le_of_ble_eq_true rfl) (Nat.le_of_ble_eq_true rfl) dX9_init_1 ?_
  refine j_aload_n (pc := 4) X dX9_init_4 rfl ?_
  refine j_sipush (pc := 5) (v := nI 642) X dX9_init_5 (by decide +kernel) ?_
  refine j_newa (cs := 0) (sl := 0) (N := 642) (pc := 8) Y hD (by decide +kernel) (nI_pos (by decide +kernel)) (nI_clamp (by decide +kernel)) (by decide +kernel) (show 1 ≤ 10 from Nat.le_of_ble_eq_true rfl) (show 642 ≤ 3690 from Nat.le_of_ble_eq_true rfl) dX9_init_8 (fun q1 hD => ?_)
  have X := Y.x (cs := 1) (sl := 642) (show 1 ≤ 10 from Nat.le_of_ble_eq_true rfl) (show 642 ≤ 3690 from Nat.le_of_ble_eq_true rfl)
  refine j_putF (cs := 1) (sl := 642) (pc := 10) (fs := [.null, .null, .int 0, .null, .int 0, .int 0, .null, .null, .null, .int 0, .null, .null, .null, .null, .int 0]) (ci := 9) (ty := .array .int) Y hD iwi_X9_init_X9 tyX9 tyX9_ok nmX9 (q0 := 0) rfl rfl 0 (by decide +kernel) (by decide +kernel) rfl rfl (tyX9_ok 0 (by decide +kernel)) rfl rfl (Nat.le_of_ble_eq_true rfl) dX9_init_10 (fun hD => ?_)
  refine j_aload_n (pc := 13) X dX9_init_13 rfl ?_
  refine j_sipush (pc := 14) (v := nI 2568) X dX9_init_14 (by decide +kernel) ?_
  refine j_newa (cs := 1) (sl := 642) (N := 2568) (pc := 17) Y hD (by decide +kernel) (nI_pos (by decide +kernel)) (nI_clamp (by decide +kernel)) (by decide +kernel) (show 2 ≤ 10 from Nat.le_of_ble_eq_true rfl) (show 3210 ≤ 3690 from Nat.le_of_ble_eq_true rfl) dX9_init_17 (fun q2 hD => ?_)
  have X := Y.x (cs := 2) (sl := 3210) (show 2 ≤ 10 from Nat.le_of_ble_eq_true rfl) (show 3210 ≤ 3690 from Nat.le_of_ble_eq_true rfl)
  refine j_putF (cs := 2) (sl := 3210) (pc := 19) (fs := [.ref q1, .null, .int 0, .null, .int 0, .int 0, .null, .null, .null, .int 0, .null, .null, .null, .null, .int 0]) (ci := 9) (ty := .array .int) Y hD iwi_X9_init_X9 tyX9 tyX9_ok nmX9 (q0 := 0) rfl rfl 1 (by decide +kernel) (by decide +kernel) rfl rfl (tyX9_ok 1 (by decide +kernel)) rfl rfl (Nat.le_of_ble_eq_true rfl) dX9_init_19 (fun hD => ?_)
  refine j_aload_n (pc := 22) X dX9_init_22 rfl ?_
  refine j_sipush (pc := 23) (v := nI 200) X dX9_init_23 (by decide +kernel) ?_
  refine j_newa (cs := 2) (sl := 3210) (N := 200) (pc := 26) Y hD (by decide +kernel) (nI_pos (by decide +kernel)) (nI_clamp (by decide +kernel)) (by decide +kernel) (show 3 ≤ 10 from Nat.le_of_ble_eq_true rfl) (show 3410 ≤ 3690 from Nat.le_of_ble_eq_true rfl) dX9_init_26 (fun q3 hD => ?_)
  have X := Y.x (cs := 3) (sl := 3410) (show 3 ≤ 10 from Nat.le_of_ble_eq_true rfl) (show 3410 ≤ 3690 from Nat.le_of_ble_eq_true rfl)
  refine j_putF (cs := 3) (sl := 3410) (pc := 28) (fs := [.ref q1, .ref q2, .int 0, .null, .int 0, .int 0, .null, .null, .null, .int 0, .null, .null, .null, .null, .int 0]) (ci := 9) (ty := .array .int) Y hD iwi_X9_init_X9 tyX9 tyX9_ok nmX9 (q0 := 0) rfl rfl 3 (by decide +kernel) (by decide +kernel) rfl rfl (tyX9_ok 3 (by decide +kernel)) rfl rfl (Nat.le_of_ble_eq_true rfl) dX9_init_28 (fun hD => ?_)
  refine j_aload_n (pc := 31) X dX9_init_31 rfl ?_
  refine j_bipush (pc := 32) (v := nI 40) X dX9_init_32 (by decide +kernel) ?_
  refine j_newa (cs := 3) (sl := 3410) (N := 40) (pc := 34) Y hD (by decide +kernel) (nI_pos (by decide +kernel)) (nI_clamp (by decide +kernel)) (by decide +kernel) (show 4 ≤ 10 from Nat.le_of_ble_eq_true rfl) (show 3450 ≤ 3690 from Nat.le_of_ble_eq_true rfl) dX9_init_34 (fun q4 hD => ?_)
  have X := Y.x (cs := 4) (sl := 3450) (show 4 ≤ 10 from Nat.le_of_ble_eq_true rfl) (show 3450 ≤ 3690 from Nat.le_of_ble_eq_true rfl)
  refine j_putF (cs := 4) (sl := 3450) (pc := 36) (fs := [.ref q1, .ref q2, .int 0, .ref q3, .int 0, .int 0, .null, .null, .null, .int 0, .null, .null, .null, .null, .int 0]) (ci := 9) (ty := .array .int) Y hD iwi_X9_init_X9 tyX9 tyX9_ok nmX9 (q0 := 0) rfl rfl 6 (by decide +kernel) (by decide +kernel) rfl rfl (tyX9_ok 6 (by decide +kernel)) rfl rfl (Nat.le_of_ble_eq_true rfl) dX9_init_36 (fun hD => ?_)
  refine j_aload_n (pc := 39) X dX9_init_39 rfl ?_
  refine j_bipush (pc := 40) (v := nI 40) X dX9_init_40 (by decide +kernel) ?_
  refine j_newa (cs := 4) (sl := 3450) (N := 40) (pc := 42) Y hD (by decide +kernel) (nI_pos (by decide +kernel)) (nI_clamp (by decide +kernel)) (by decide +kernel) (show 5 ≤ 10 from Nat.le_of_ble_eq_true rfl) (show 3490 ≤ 3690 from Nat.le_of_ble_eq_true rfl) dX9_init_42 (fun q5 hD => ?_)
  have X := Y.x (cs := 5) (sl := 3490) (show 5 ≤ 10 from Nat.le_of_ble_eq_true rfl) (show 3490 ≤ 3690 from Nat.le_of_ble_eq_true rfl)
  refine j_putF (cs := 5) (sl := 3490) (pc := 44) (fs := [.ref q1, .ref q2, .int 0, .ref q3, .int 0, .int 0, .ref q4, .null, .null, .int 0, .null, .null, .null, .null, .int 0]) (ci := 9) (ty := .array .int) Y hD iwi_X9_init_X9 tyX9 tyX9_ok nmX9 (q0 := 0) rfl rfl 7 (by decide +kernel) (by decide +kernel) rfl rfl (tyX9_ok 7 (by decide +kernel)) rfl rfl (Nat.le_of_ble_eq_true rfl) dX9_init_44 (fun hD => ?_)
  refine j_aload_n (pc := 47) X dX9_init_47 rfl ?_
  refine j_bipush (pc := 48) (v := nI 40) X dX9_init_48 (by decide +kernel) ?_
  refine j_newa (cs := 5) (sl := 3490) (N := 40) (pc := 50) Y hD (by decide +kernel) (nI_pos (by decide +kernel)) (nI_clamp (by decide +kernel)) (by decide +kernel) (show 6 ≤ 10 from Nat.le_of_ble_eq_true rfl) (show 3530 ≤ 3690 from Nat.le_of_ble_eq_true rfl) dX9_init_50 (fun q6 hD => ?_)
  have X := Y.x (cs := 6) (sl := 3530) (show 6 ≤ 10 from Nat.le_of_ble_eq_true rfl) (show 3530 ≤ 3690 from Nat.le_of_ble_eq_true rfl)
  refine j_putF (cs := 6) (sl := 3530) (pc := 52) (fs := [.ref q1, .ref q2, .int 0, .ref q3, .int 0, .int 0, .ref q4, .ref q5, .null, .int 0, .null, .null, .null, .null, .int 0]) (ci := 9) (ty := .array .int) Y hD iwi_X9_init_X9 tyX9 tyX9_ok nmX9 (q0 := 0) rfl rfl 8 (by decide +kernel) (by decide +kernel) rfl rfl (tyX9_ok 8 (by decide +kernel)) rfl rfl (Nat.le_of_ble_eq_true rfl) dX9_init_52 (fun hD => ?_)
  refine j_aload_n (pc := 55) X dX9_init_55 rfl ?_
  refine j_bipush (pc := 56) (v := nI 40) X dX9_init_56 (by decide +kernel) ?_
  refine j_newa (cs := 6) (sl := 3530) (N := 40) (pc := 58) Y hD (by decide +kernel) (nI_pos (by decide +kernel)) (nI_clamp (by decide +kernel)) (by decide +kernel) (show 7 ≤ 10 from Nat.le_of_ble_eq_true rfl) (show 3570 ≤ 3690 from Nat.le_of_ble_eq_true rfl) dX9_init_58 (fun q7 hD => ?_)
  have X := Y.x (cs := 7) (sl := 3570) (show 7 ≤ 10 from Nat.le_of_ble_eq_true rfl) (show 3570 ≤ 3690 from Nat.le_of_ble_eq_true rfl)
  refine j_putF (cs := 7) (sl := 3570) (pc := 60) (fs := [.ref q1, .ref q2, .int 0, .ref q3, .int 0, .int 0, .ref q4, .ref q5, .ref q6, .int 0, .null, .null, .null, .null, .int 0]) (ci := 9) (ty := .array .int) Y hD iwi_X9_init_X9 tyX9 tyX9_ok nmX9 (q0 := 0) rfl rfl 10 (by decide +kernel) (by decide +kernel) rfl rfl (tyX9_ok 10 (by decide +kernel)) rfl rfl (Nat.le_of_ble_eq_true rfl) dX9_init_60 (fun hD => ?_)
  refine j_aload_n (pc := 63) X dX9_init_63 rfl ?_
  refine j_bipush (pc := 64) (v := nI 40) X dX9_init_64 (by decide +kernel) ?_
  refine j_newa (cs := 7) (sl := 3570) (N := 40) (pc := 66) Y hD (by decide +kernel) (nI_pos (by decide +kernel)) (nI_clamp (by decide +kernel)) (by decide +kernel) (show 8 ≤ 10 from Nat.le_of_ble_eq_true rfl) (show 3610 ≤ 3690 from Nat.le_of_ble_eq_true rfl) dX9_init_66 (fun q8 hD => ?_)
  have X := Y.x (cs := 8) (sl := 3610) (show 8 ≤ 10 from Nat.le_of_ble_eq_true rfl) (show 3610 ≤ 3690 from Nat.le_of_ble_eq_true rfl)
  refine j_putF (cs := 8) (sl := 3610) (pc := 68) (fs := [.ref q1, .ref q2, .int 0, .ref q3, .int 0, .int 0, .ref q4, .ref q5, .ref q6, .int 0, .ref q7, .null, .null, .null, .int 0]) (ci := 9) (ty := .array .int) Y hD iwi_X9_init_X9 tyX9 tyX9_ok nmX9 (q0 := 0) rfl rfl 11 (by decide +kernel) (by decide +kernel) rfl rfl (tyX9_ok 11 (by decide +kernel)) rfl rfl (Nat.le_of_ble_eq_true rfl) dX9_init_68 (fun hD => ?_)
  refine j_aload_n (pc := 71) X dX9_init_71 rfl ?_
  refine j_bipush (pc := 72) (v := nI 40) X dX9_init_72 (by decide +kernel) ?_
  refine j_newa (cs := 8) (sl := 3610) (N := 40) (pc := 74) Y hD (by decide +kernel) (nI_pos (by decide +kernel)) (nI_clamp (by decide +kernel)) (by decide +kernel) (show 9 ≤ 10 from Nat.le_of_ble_eq_true rfl) (show 3650 ≤ 3690 from Nat.le_of_ble_eq_true rfl) dX9_init_74 (fun q9 hD => ?_)
  have X := Y.x (cs := 9) (sl := 3650) (show 9 ≤ 10 from Nat.le_of_ble_eq_true rfl) (show 3650 ≤ 3690 from Nat.le_of_ble_eq_true rfl)
  refine j_putF (cs := 9) (sl := 3650) (pc := 76) (fs := [.ref q1, .ref q2, .int 0, .ref q3, .int 0, .int 0, .ref q4, .ref q5, .ref q6, .int 0, .ref q7, .ref q8, .null, .null, .int 0]) (ci := 9) (ty := .array .int) Y hD iwi_X9_init_X9 tyX9 tyX9_ok nmX9 (q0 := 0) rfl rfl 12 (by decide +kernel) (by decide +kernel) rfl rfl (tyX9_ok 12 (by decide +kernel)) rfl rfl (Nat.le_of_ble_eq_true rfl) dX9_init_76 (fun hD => ?_)
  refine j_aload_n (pc := 79) X dX9_init_79 rfl ?_
  refine j_bipush (pc := 80) (v := nI 40) X dX9_init_80 (by decide +kernel) ?_
  refine j_newa (cs := 9) (sl := 3650) (N := 40) (pc := 82) Y hD (by decide +kernel) (nI_pos (by decide +kernel)) (nI_clamp (by decide +kernel)) (by decide +kernel) (show 10 ≤ 10 from Nat.le_of_ble_eq_true rfl) (show 3690 ≤ 3690 from Nat.le_of_ble_eq_true rfl) dX9_init_82 (fun q10 hD => ?_)
  have X := Y.x (cs := 10) (sl := 3690) (show 10 ≤ 10 from Nat.le_of_ble_eq_true rfl) (show 3690 ≤ 3690 from Nat.le_of_ble_eq_true rfl)
  refine j_putF (cs := 10) (sl := 3690) (pc := 84) (fs := [.ref q1, .ref q2, .int 0, .ref q3, .int 0, .int 0, .ref q4, .ref q5, .ref q6, .int 0, .ref q7, .ref q8, .ref q9, .null, .int 0]) (ci := 9) (ty := .array .int) Y hD iwi_X9_init_X9 tyX9 tyX9_ok nmX9 (q0 := 0) rfl rfl 13 (by decide +kernel) (by decide +kernel) rfl rfl (tyX9_ok 13 (by decide +kernel)) rfl rfl (Nat.le_of_ble_eq_true rfl) dX9_init_84 (fun hD => ?_)
  obtain ⟨am, ham⟩ : ∃ am : Nat → Nat, am = (fun i => if i = 0 then h0 else if i = 1 then q1 else if i = 2 then q2 else if i = 3 then q3 else if i = 4 then q4 else if i = 5 then q5 else if i = 6 then q6 else if i = 7 then q7 else if i = 8 then q8 else if i = 9 then q9 else q10) := ⟨_, rfl⟩
  have h0a : am 0 = h0 := by rw [ham]; rfl
  have hDW : va_D A (WM cI am (fun _ _ => 0)) := by rw [ham]; exact hD
  have Yw : Kw (gS g 10 3690) (WM cI am) A := ⟨Y.2.1, fun M => m9_D hDW M⟩
  suffices hJ : J (gS g 10 3690) (WM cI am) 5 (fun _ _ => 0) 87 [some (.ref (am 0)), none, none, none, none] [] by
    rw [h0a] at hJ
    rw [ham] at hJ
    exact hJ
  refine j_aload_n (pc := 87) X dX9_init_87 rfl ?_
  refine j_get (pc := 88) X iwi_X9_init_X9 wm0 rfl 0 (Nat.le_of_ble_eq_true rfl) lki_X9_7 (v := .ref (am 1)) rfl dX9_init_88 ?_
  refine j_iconst (pc := 91) (v := nI 4) X dX9_init_91 (by decide +kernel) ?_
  refine j_bipush (pc := 92) (v := nI 10) X dX9_init_92 (by decide +kernel) ?_
  refine j_iast (C' := (m9s (fun _ _ => 0) 4 (nI 10))) (pc := 94) X Yw wm1 (vp_in_nI (by decide +kernel) (by decide +kernel)) dX9_init_94 (by rw [nI_clamp (by decide +kernel)]; exact sm1 _) ?_
  refine j_aload_n (pc := 95) X dX9_init_95 rfl ?_
  refine j_get (pc := 96) X iwi_X9_init_X9 wm0 rfl 0 (Nat.le_of_ble_eq_true rfl) lki_X9_7 (v := .ref (am 1)) rfl dX9_init_96 ?_
  refine j_iconst (pc := 99) (v := nI 5) X dX9_init_99 (by decide +kernel) ?_
  refine j_iconst (pc := 100) (v := nI 3) X dX9_init_100 (by decide +kernel) ?_
  refine j_iast (C' := (m9s (m9s (fun _ _ => 0) 4 (nI 10)) 5 (nI 3))) (pc := 101) X Yw wm1 (vp_in_nI (by decide +kernel) (by decide +kernel)) dX9_init_101 (by rw [nI_clamp (by decide +kernel)]; exact sm1 _) ?_
  refine j_aload_n (pc := 102) X dX9_init_102 rfl ?_
  refine j_get (pc := 103) X iwi_X9_init_X9 wm0 rfl 0 (Nat.le_of_ble_eq_true rfl) lki_X9_7 (v := .ref (am 1)) rfl dX9_init_103 ?_
  refine j_bipush (pc := 106) (v := nI 6) X dX9_init_106 (by decide +kernel) ?_
  refine j_iconst (pc := 108) (v := nI 3) X dX9_init_108 (by decide +kernel) ?_
  refine j_iast (C' := (m9s (m9s (m9s (fun _ _ => 0) 4 (nI 10)) 5 (nI 3)) 6 (nI 3))) (pc := 109) X Yw wm1 (vp_in_nI (by decide +kernel) (by decide +kernel)) dX9_init_109 (by rw [nI_clamp (by decide +kernel)]; exact sm1 _) ?_
  refine j_aload_n (pc := 110) X dX9_init_110 rfl ?_
  refine j_get (pc := 111) X iwi_X9_init_X9 wm0 rfl 0 (Nat.le_of_ble_eq_true rfl) lki_X9_7 (v := .ref (am 1)) rfl dX9_init_111 ?_
  refine j_bipush (pc := 114) (v := nI 7) X dX9_init_114 (by decide +kernel) ?_
  refine j_bipush (pc := 116) (v := nI 80) X dX9_init_116 (by decide +kernel) ?_
  refine j_iast (C' := (m9s (m9s (m9s (m9s (fun _ _ => 0) 4 (nI 10)) 5 (nI 3)) 6 (nI 3)) 7 (nI 80))) (pc := 118) X Yw wm1 (vp_in_nI (by decide +kernel) (by decide +kernel)) dX9_init_118 (by rw [nI_clamp (by decide +kernel)]; exact sm1 _) ?_
  refine j_iconst (pc := 119) (v := nI 0) X dX9_init_119 (by decide +kernel) ?_
  refine j_istore_n (pc := 120) X dX9_init_120 (by decide +kernel) rfl ?_
  refine m9_0 X Yw (fun o2 o3 o4 => ?_)
  refine m9_1 X Yw (fun o2 o3 o4 => ?_)
  refine m9_2 X Yw (fun o2 o3 o4 => ?_)
  refine m9_3 X Yw (fun o2 o3 o4 => ?_)
  refine m9_4 X Yw (fun o2 o3 o4 => ?_)
  refine m9_5 X Yw (fun o2 o3 o4 => ?_)
  refine m9_6 X Yw (fun o2 o3 o4 => ?_)
  refine m9_7 X Yw (fun o2 o3 o4 => ?_)
  refine m9_8 X Yw (fun o2 o3 o4 => ?_)
  refine m9_9 X Yw (fun o2 o3 o4 => ?_)
  refine m9_10 X Yw (fun o2 o3 o4 => ?_)
  refine m9_11 X Yw (fun o2 o3 o4 => ?_)
  refine m9_12 X Yw (fun o2 o3 o4 => ?_)
  refine m9_13 X Yw (fun o2 o3 o4 => ?_)
  refine m9_14 X Yw (fun o2 o3 o4 => ?_)
  refine m9_15 X Yw (fun o2 o3 o4 => ?_)
  refine m9_16 X Yw (fun o2 o3 o4 => ?_)
  refine m9_17 X Yw (fun o2 o3 o4 => ?_)
  refine m9_18 X Yw (fun o2 o3 o4 => ?_)
  refine m9_19 X Yw (fun o2 o3 o4 => ?_)
  refine m9_20 X Yw (fun o2 o3 o4 => ?_)
  refine m9_21 X Yw (fun o2 o3 o4 => ?_)
  refine m9_22 X Yw (fun o2 o3 o4 => ?_)
  refine m9_23 X Yw (fun o2 o3 o4 => ?_)
  refine m9_24 X Yw (fun o2 o3 o4 => ?_)
  refine m9_25 X Yw (fun o2 o3 o4 => ?_)
  refine j_iload_n (pc := 121) X dX9_init_121 rfl ?_
  refine j_bipush (pc := 122) (v := nI 26) X dX9_init_122 (by decide +kernel) ?_
  refine j_icmp_ge (pc := 124) (tgt := 231) X dX9_init_124 (by decide +kernel) (fun _ => ?_) (fun h => absurd (by decide +kernel) h)
  exact hR 231 _ am (WM cI am (mk9 26)) dX9_init_231 h0a rfl (m9_D hDW _)
