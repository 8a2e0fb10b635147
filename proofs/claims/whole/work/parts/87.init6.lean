/-! ===== constructor of the reference, whole ===== -/
theorem mk9_s (k : Nat) : mk9 (k + 1) = m9s (mk9 k) (8 + k) (FWt k) := rfl
theorem mk9_0 : m9s (m9s (m9s (m9s (fun _ _ => 0) 4 (nI 10)) 5 (nI 3)) 6 (nI 3)) 7 (nI 80) = mk9 0 := rfl
section M9b
variable {g : kG} {cI cS : ClassId} {rm : Room} {A : Nat → Prop} {am : Nat → Nat} {M C : kS} {o2 o3 o4 : Option Value} {nL cs sl pc : Nat} {lv : List (Option Value)} {st : List Value} {ws : va_W} {Wf : kS → va_W}
theorem jw_in (f : ∀ H : Heap, va_P g.2.2.2.1 vwCl ws H → va_P g.2.2.2.1 vwCl (Wf C) H) (k : J (gS g cs sl) Wf nL C pc lv st) : JW g cs sl nL ws pc lv st := fun H locs ls hP hS hl => k H locs ls (f H hP) hS hl
theorem jw_out (k : JW g cs sl nL (Wf C) pc lv st) : J (gS g cs sl) Wf nL C pc lv st := fun H locs ls hP hS hl => k H locs ls hP hS hl
theorem m9_fill (X : Kx (gS g 10 3690) cI cS cX9_init RX9 wsX9_init 5 rm) (Yw : Kw (gS g 10 3690) (WM cI am) A) (kk : ∀ o2 o3 o4 : Option Value, J (gS g 10 3690) (WM cI am) 5 (mk9 26) 121 [some (.ref (am 0)), some (.int (nI 26)), o2, o3, o4] []) : J (gS g 10 3690) (WM cI am) 5 (mk9 0) 121 [some (.ref (am 0)), some (.int (nI 0)), o2, o3, o4] [] := by
  refine m9_0 (M := mk9 0) X Yw (fun o2 o3 o4 => ?_)
  rw [show m9s (mk9 0) (8 + 0) (FWt 0) = mk9 1 from (mk9_s 0).symm]
  refine m9_1 (M := mk9 1) X Yw (fun o2 o3 o4 => ?_)
  rw [show m9s (mk9 1) (8 + 1) (FWt 1) = mk9 2 from (mk9_s 1).symm]
  refine m9_2 (M := mk9 2) X Yw (fun o2 o3 o4 => ?_)
  rw [show m9s (mk9 2) (8 + 2) (FWt 2) = mk9 3 from (mk9_s 2).symm]
  refine m9_3 (M := mk9 3) X Yw (fun o2 o3 o4 => ?_)
  rw [show m9s (mk9 3) (8 + 3) (FWt 3) = mk9 4 from (mk9_s 3).symm]
  refine m9_4 (M := mk9 4) X Yw (fun o2 o3 o4 => ?_)
  rw [show m9s (mk9 4) (8 + 4) (FWt 4) = mk9 5 from (mk9_s 4).symm]
  refine m9_5 (M := mk9 5) X Yw (fun o2 o3 o4 => ?_)
  rw [show m9s (mk9 5) (8 + 5) (FWt 5) = mk9 6 from (mk9_s 5).symm]
  refine m9_6 (M := mk9 6) X Yw (fun o2 o3 o4 => ?_)
  rw [show m9s (mk9 6) (8 + 6) (FWt 6) = mk9 7 from (mk9_s 6).symm]
  refine m9_7 (M := mk9 7) X Yw (fun o2 o3 o4 => ?_)
  rw [show m9s (mk9 7) (8 + 7) (FWt 7) = mk9 8 from (mk9_s 7).symm]
  refine m9_8 (M := mk9 8) X Yw (fun o2 o3 o4 => ?_)
  rw [show m9s (mk9 8) (8 + 8) (FWt 8) = mk9 9 from (mk9_s 8).symm]
  refine m9_9 (M := mk9 9) X Yw (fun o2 o3 o4 => ?_)
  rw [show m9s (mk9 9) (8 + 9) (FWt 9) = mk9 10 from (mk9_s 9).symm]
  refine m9_10 (M := mk9 10) X Yw (fun o2 o3 o4 => ?_)
  rw [show m9s (mk9 10) (8 + 10) (FWt 10) = mk9 11 from (mk9_s 10).symm]
  refine m9_11 (M := mk9 11) X Yw (fun o2 o3 o4 => ?_)
  rw [show m9s (mk9 11) (8 + 11) (FWt 11) = mk9 12 from (mk9_s 11).symm]
  refine m9_12 (M := mk9 12) X Yw (fun o2 o3 o4 => ?_)
  rw [show m9s (mk9 12) (8 + 12) (FWt 12) = mk9 13 from (mk9_s 12).symm]
  refine m9_13 (M := mk9 13) X Yw (fun o2 o3 o4 => ?_)
  rw [show m9s (mk9 13) (8 + 13) (FWt 13) = mk9 14 from (mk9_s 13).symm]
  refine m9_14 (M := mk9 14) X Yw (fun o2 o3 o4 => ?_)
  rw [show m9s (mk9 14) (8 + 14) (FWt 14) = mk9 15 from (mk9_s 14).symm]
  refine m9_15 (M := mk9 15) X Yw (fun o2 o3 o4 => ?_)
  rw [show m9s (mk9 15) (8 + 15) (FWt 15) = mk9 16 from (mk9_s 15).symm]
  refine m9_16 (M := mk9 16) X Yw (fun o2 o3 o4 => ?_)
  rw [show m9s (mk9 16) (8 + 16) (FWt 16) = mk9 17 from (mk9_s 16).symm]
  refine m9_17 (M := mk9 17) X Yw (fun o2 o3 o4 => ?_)
  rw [show m9s (mk9 17) (8 + 17) (FWt 17) = mk9 18 from (mk9_s 17).symm]
  refine m9_18 (M := mk9 18) X Yw (fun o2 o3 o4 => ?_)
  rw [show m9s (mk9 18) (8 + 18) (FWt 18) = mk9 19 from (mk9_s 18).symm]
  refine m9_19 (M := mk9 19) X Yw (fun o2 o3 o4 => ?_)
  rw [show m9s (mk9 19) (8 + 19) (FWt 19) = mk9 20 from (mk9_s 19).symm]
  refine m9_20 (M := mk9 20) X Yw (fun o2 o3 o4 => ?_)
  rw [show m9s (mk9 20) (8 + 20) (FWt 20) = mk9 21 from (mk9_s 20).symm]
  refine m9_21 (M := mk9 21) X Yw (fun o2 o3 o4 => ?_)
  rw [show m9s (mk9 21) (8 + 21) (FWt 21) = mk9 22 from (mk9_s 21).symm]
  refine m9_22 (M := mk9 22) X Yw (fun o2 o3 o4 => ?_)
  rw [show m9s (mk9 22) (8 + 22) (FWt 22) = mk9 23 from (mk9_s 22).symm]
  refine m9_23 (M := mk9 23) X Yw (fun o2 o3 o4 => ?_)
  rw [show m9s (mk9 23) (8 + 23) (FWt 23) = mk9 24 from (mk9_s 23).symm]
  refine m9_24 (M := mk9 24) X Yw (fun o2 o3 o4 => ?_)
  rw [show m9s (mk9 24) (8 + 24) (FWt 24) = mk9 25 from (mk9_s 24).symm]
  refine m9_25 (M := mk9 25) X Yw (fun o2 o3 o4 => ?_)
  rw [show m9s (mk9 25) (8 + 25) (FWt 25) = mk9 26 from (mk9_s 25).symm]
  exact kk o2 o3 o4
theorem m9_set (X : Kx (gS g 10 3690) cI cS cX9_init RX9 wsX9_init 5 rm) (Yw : Kw (gS g 10 3690) (WM cI am) A) (kk : ∀ lv : List (Option Value), J (gS g 10 3690) (WM cI am) 5 (mk9 26) 231 lv []) : J (gS g 10 3690) (WM cI am) 5 (fun _ _ => 0) 87 [some (.ref (am 0)), none, none, none, none] [] := by
  refine j_aload_n (pc := 87) X dX9_init_87 rfl ?_
  refine j_get (pc := 88) X iwi_X9_init_X9 wm0 rfl 0 (Nat.le_of_ble_eq_true rfl) lki_X9_7 (v := .ref (am 1)) rfl dX9_init_88 ?_
  refine j_iconst (pc := 91) (v := nI 4) X dX9_init_91 (by decide +kernel) ?_
  refine j_bipush (pc := 92) (v := nI 10) X dX9_init_92 (by decide +kernel) ?_
  refine j_iast (C' := (m9s (fun _ _ => 0) 4 (nI 10))) (pc := 94) X Yw wm1 (vp_in_nI (by decide +kernel) (by decide +kernel)) dX9_init_94 (by rw [nI_clamp (by decide +kernel)]; exact sm1 _) ?_
  refine j_aload_n (pc := 95) X dX9_init_95 rfl ?_
  refine j_get (pc := 96) X iwi_X9_init_X9 wm0 rfl 0 (Nat.le_of_ble_eq_true rfl) lki_X9_7 (v := .ref (am 1)) rfl dX9_init_96 ?_
  refine j_iconst (pc := 99) (v := nI 5) X dX9_init_99 (by decide +kernel) ?_
  refine j_iconst (pc := 100) (v := nI 3) X dX9_init_100 (by decide +kernel) ?_
  refine j_iast (C' := (m9s (m9s (fun _ _ => 0) 4 (nI 10)) 5 (nI 3))) (pc := 101) X Yw wm1 (vp_in_nI (by decide +kernel) (by decide +kernel)) dX9_init_101 (by rw [nI_clamp (by decide +kernel)]; exact sm1 _) ?_
  refine j_aload_n (pc := 102) X dX9_init_102 rfl ?_
  refine j_get (pc := 103) X iwi_X9_init_X9 wm0 rfl 0 (Nat.le_of_ble_eq_true rfl) lki_X9_7 (v := .ref (am 1)) rfl dX9_init_103 ?_
  refine j_bipush (pc := 106) (v := nI 6) X dX9_init_106 (by decide +kernel) ?_
  refine j_iconst (pc := 108) (v := nI 3) X dX9_init_108 (by decide +kernel) ?_
  refine j_iast (C' := (m9s (m9s (m9s (fun _ _ => 0) 4 (nI 10)) 5 (nI 3)) 6 (nI 3))) (pc := 109) X Yw wm1 (vp_in_nI (by decide +kernel) (by decide +kernel)) dX9_init_109 (by rw [nI_clamp (by decide +kernel)]; exact sm1 _) ?_
  refine j_aload_n (pc := 110) X dX9_init_110 rfl ?_
  refine j_get (pc := 111) X iwi_X9_init_X9 wm0 rfl 0 (Nat.le_of_ble_eq_true rfl) lki_X9_7 (v := .ref (am 1)) rfl dX9_init_111 ?_
  refine j_bipush (pc := 114) (v := nI 7) X dX9_init_114 (by decide +kernel) ?_
  refine j_bipush (pc := 116) (v := nI 80) X dX9_init_116 (by decide +kernel) ?_
  refine j_iast (C' := (m9s (m9s (m9s (m9s (fun _ _ => 0) 4 (nI 10)) 5 (nI 3)) 6 (nI 3)) 7 (nI 80))) (pc := 118) X Yw wm1 (vp_in_nI (by decide +kernel) (by decide +kernel)) dX9_init_118 (by rw [nI_clamp (by decide +kernel)]; exact sm1 _) ?_
  rw [mk9_0]
  refine j_iconst (pc := 119) (v := nI 0) X dX9_init_119 (by decide +kernel) ?_
  refine j_istore_n (pc := 120) X dX9_init_120 (by decide +kernel) rfl ?_
  refine m9_fill (o2 := none) (o3 := none) (o4 := none) X Yw (fun o2 o3 o4 => ?_)
  refine j_iload_n (pc := 121) X dX9_init_121 rfl ?_
  refine j_bipush (pc := 122) (v := nI 26) X dX9_init_122 (by decide +kernel) ?_
  refine j_icmp_ge (pc := 124) (tgt := 231) X dX9_init_124 (by decide +kernel) (fun _ => ?_) (fun h => absurd (by decide +kernel) h)
  exact kk _
end M9b
set_option maxHeartbeats 4000000 in
set_option maxRecDepth 100000 in
theorem c_X9_init (l : Launch) (D : va_G) (cI cS : ClassId) (h0 : Nat) : mC l yX9_init wsX9_init rmi_X9 D cI cS eNo h0 (.inr (9, [.null, .null, .int 0, .null, .int 0, .int 0, .null, .null, .null, .int 0, .null, .null, .null, .null, .int 0])) [] (fun am => WM cI am (mk9 26)) 10 3690 := by
  refine mC.of (cc := cX9_init) (nL := 5) (by decide +kernel) rfl rfl (Nat.le_of_ble_eq_true rfl) rfl eNo_ok (fun g A hl1 hD1 Y hD hR => ?_)
  have X := Y.x (cs := 0) (sl := 0) (Nat.zero_le _) (Nat.zero_le _)
  refine j_aload_n (pc := 0) X dX9_init_0 rfl ?_
  refine j_objInit (pc := 1) Y (by decide +kernel) (by decide +kernel) (by decide +kernel) (Nat.le_of_ble_eq_true rfl) (Nat.le_of_ble_eq_true rfl) dX9_init_1 ?_
  refine j_aload_n (pc := 4) X dX9_init_4 rfl ?_
  refine j_sipush (pc := 5) (v := nI 642) X dX9_init_5 (by decide +kernel) ?_
  refine j_newa (cs := 0) (sl := 0) (N := 642) (pc := 8) Y hD (by decide +kernel) (nI_pos (by decide +kernel)) (nI_clamp (by decide +kernel)) (by decide +kernel) (show 1 ≤ 10 from Nat.le_of_ble_eq_true rfl) (show 642 ≤ 3690 from Nat.le_of_ble_eq_true rfl) dX9_init_8 (fun q1 hD => ?_)
  have X := Y.x (cs := 1) (sl := 642) (show 1 ≤ 10 from Nat.le_of_ble_eq_true rfl) (show 642 ≤ 3690 from Nat.le_of_ble_eq_true rfl)
  refine j_putF (cs := 1) (sl := 642) (pc := 10) (fs := [.null, .null, .int 0, .null, .int 0, .int 0, .null, .null, .null, .int 0, .null, .null, .null, .null, .int 0]) (ci := 9) (ty := .array .int) Y hD iwi_X9_init_X9 tyX9 tyX9_ok nmX9 (q0 := 0) rfl rfl 0 (by decide +kernel) (by decide +kernel) rfl rfl (tyX9_ok 0 (by decide +kernel)) rfl rfl (Nat.le_of_ble_eq_true rfl) dX9_init_10 (fun hD => ?_)
  have hD : va_D A ([(h0, .inr (9, [.ref q1, .null, .int 0, .null, .int 0, .int 0, .null, .null, .null, .int 0, .null, .null, .null, .null, .int 0])), (q1, .inl (cI, 642, .inl (fun _ => 0)))] : va_W) := hD
  refine jw_in (Wf := kWs ([(h0, .inr (9, [.ref q1, .null, .int 0, .null, .int 0, .int 0, .null, .null, .null, .int 0, .null, .null, .null, .null, .int 0])), (q1, .inl (cI, 642, .inl (fun _ => 0)))] : va_W)) (C := kC0) (fun H hP => hP) ?_
  refine j_aload_n (pc := 13) X dX9_init_13 rfl ?_
  refine j_sipush (pc := 14) (v := nI 2568) X dX9_init_14 (by decide +kernel) ?_
  refine j_newa (cs := 1) (sl := 642) (N := 2568) (pc := 17) Y hD (by decide +kernel) (nI_pos (by decide +kernel)) (nI_clamp (by decide +kernel)) (by decide +kernel) (show 2 ≤ 10 from Nat.le_of_ble_eq_true rfl) (show 3210 ≤ 3690 from Nat.le_of_ble_eq_true rfl) dX9_init_17 (fun q2 hD => ?_)
  have X := Y.x (cs := 2) (sl := 3210) (show 2 ≤ 10 from Nat.le_of_ble_eq_true rfl) (show 3210 ≤ 3690 from Nat.le_of_ble_eq_true rfl)
  refine j_putF (cs := 2) (sl := 3210) (pc := 19) (fs := [.ref q1, .null, .int 0, .null, .int 0, .int 0, .null, .null, .null, .int 0, .null, .null, .null, .null, .int 0]) (ci := 9) (ty := .array .int) Y hD iwi_X9_init_X9 tyX9 tyX9_ok nmX9 (q0 := 0) rfl rfl 1 (by decide +kernel) (by decide +kernel) rfl rfl (tyX9_ok 1 (by decide +kernel)) rfl rfl (Nat.le_of_ble_eq_true rfl) dX9_init_19 (fun hD => ?_)
  have hD : va_D A ([(h0, .inr (9, [.ref q1, .ref q2, .int 0, .null, .int 0, .int 0, .null, .null, .null, .int 0, .null, .null, .null, .null, .int 0])), (q1, .inl (cI, 642, .inl (fun _ => 0))), (q2, .inl (cI, 2568, .inl (fun _ => 0)))] : va_W) := hD
  refine jw_in (Wf := kWs ([(h0, .inr (9, [.ref q1, .ref q2, .int 0, .null, .int 0, .int 0, .null, .null, .null, .int 0, .null, .null, .null, .null, .int 0])), (q1, .inl (cI, 642, .inl (fun _ => 0))), (q2, .inl (cI, 2568, .inl (fun _ => 0)))] : va_W)) (C := kC0) (fun H hP => hP) ?_
  refine j_aload_n (pc := 22) X dX9_init_22 rfl ?_
  refine j_sipush (pc := 23) (v := nI 200) X dX9_init_23 (by decide +kernel) ?_
  refine j_newa (cs := 2) (sl := 3210) (N := 200) (pc := 26) Y hD (by decide +kernel) (nI_pos (by decide +kernel)) (nI_clamp (by decide +kernel)) (by decide +kernel) (show 3 ≤ 10 from Nat.le_of_ble_eq_true rfl) (show 3410 ≤ 3690 from Nat.le_of_ble_eq_true rfl) dX9_init_26 (fun q3 hD => ?_)
  have X := Y.x (cs := 3) (sl := 3410) (show 3 ≤ 10 from Nat.le_of_ble_eq_true rfl) (show 3410 ≤ 3690 from Nat.le_of_ble_eq_true rfl)
  refine j_putF (cs := 3) (sl := 3410) (pc := 28) (fs := [.ref q1, .ref q2, .int 0, .null, .int 0, .int 0, .null, .null, .null, .int 0, .null, .null, .null, .null, .int 0]) (ci := 9) (ty := .array .int) Y hD iwi_X9_init_X9 tyX9 tyX9_ok nmX9 (q0 := 0) rfl rfl 3 (by decide +kernel) (by decide +kernel) rfl rfl (tyX9_ok 3 (by decide +kernel)) rfl rfl (Nat.le_of_ble_eq_true rfl) dX9_init_28 (fun hD => ?_)
  have hD : va_D A ([(h0, .inr (9, [.ref q1, .ref q2, .int 0, .ref q3, .int 0, .int 0, .null, .null, .null, .int 0, .null, .null, .null, .null, .int 0])), (q1, .inl (cI, 642, .inl (fun _ => 0))), (q2, .inl (cI, 2568, .inl (fun _ => 0))), (q3, .inl (cI, 200, .inl (fun _ => 0)))] : va_W) := hD
  refine jw_in (Wf := kWs ([(h0, .inr (9, [.ref q1, .ref q2, .int 0, .ref q3, .int 0, .int 0, .null, .null, .null, .int 0, .null, .null, .null, .null, .int 0])), (q1, .inl (cI, 642, .inl (fun _ => 0))), (q2, .inl (cI, 2568, .inl (fun _ => 0))), (q3, .inl (cI, 200, .inl (fun _ => 0)))] : va_W)) (C := kC0) (fun H hP => hP) ?_
  refine j_aload_n (pc := 31) X dX9_init_31 rfl ?_
  refine j_bipush (pc := 32) (v := nI 40) X dX9_init_32 (by decide +kernel) ?_
  refine j_newa (cs := 3) (sl := 3410) (N := 40) (pc := 34) Y hD (by decide +kernel) (nI_pos (by decide +kernel)) (nI_clamp (by decide +kernel)) (by decide +kernel) (show 4 ≤ 10 from Nat.le_of_ble_eq_true rfl) (show 3450 ≤ 3690 from Nat.le_of_ble_eq_true rfl) dX9_init_34 (fun q4 hD => ?_)
  have X := Y.x (cs := 4) (sl := 3450) (show 4 ≤ 10 from Nat.le_of_ble_eq_true rfl) (show 3450 ≤ 3690 from Nat.le_of_ble_eq_true rfl)
  refine j_putF (cs := 4) (sl := 3450) (pc := 36) (fs := [.ref q1, .ref q2, .int 0, .ref q3, .int 0, .int 0, .null, .null, .null, .int 0, .null, .null, .null, .null, .int 0]) (ci := 9) (ty := .array .int) Y hD iwi_X9_init_X9 tyX9 tyX9_ok nmX9 (q0 := 0) rfl rfl 6 (by decide +kernel) (by decide +kernel) rfl rfl (tyX9_ok 6 (by decide +kernel)) rfl rfl (Nat.le_of_ble_eq_true rfl) dX9_init_36 (fun hD => ?_)
  have hD : va_D A ([(h0, .inr (9, [.ref q1, .ref q2, .int 0, .ref q3, .int 0, .int 0, .ref q4, .null, .null, .int 0, .null, .null, .null, .null, .int 0])), (q1, .inl (cI, 642, .inl (fun _ => 0))), (q2, .inl (cI, 2568, .inl (fun _ => 0))), (q3, .inl (cI, 200, .inl (fun _ => 0))), (q4, .inl (cI, 40, .inl (fun _ => 0)))] : va_W) := hD
  refine jw_in (Wf := kWs ([(h0, .inr (9, [.ref q1, .ref q2, .int 0, .ref q3, .int 0, .int 0, .ref q4, .null, .null, .int 0, .null, .null, .null, .null, .int 0])), (q1, .inl (cI, 642, .inl (fun _ => 0))), (q2, .inl (cI, 2568, .inl (fun _ => 0))), (q3, .inl (cI, 200, .inl (fun _ => 0))), (q4, .inl (cI, 40, .inl (fun _ => 0)))] : va_W)) (C := kC0) (fun H hP => hP) ?_
  refine j_aload_n (pc := 39) X dX9_init_39 rfl ?_
  refine j_bipush (pc := 40) (v := nI 40) X dX9_init_40 (by decide +kernel) ?_
  refine j_newa (cs := 4) (sl := 3450) (N := 40) (pc := 42) Y hD (by decide +kernel) (nI_pos (by decide +kernel)) (nI_clamp (by decide +kernel)) (by decide +kernel) (show 5 ≤ 10 from Nat.le_of_ble_eq_true rfl) (show 3490 ≤ 3690 from Nat.le_of_ble_eq_true rfl) dX9_init_42 (fun q5 hD => ?_)
  have X := Y.x (cs := 5) (sl := 3490) (show 5 ≤ 10 from Nat.le_of_ble_eq_true rfl) (show 3490 ≤ 3690 from Nat.le_of_ble_eq_true rfl)
  refine j_putF (cs := 5) (sl := 3490) (pc := 44) (fs := [.ref q1, .ref q2, .int 0, .ref q3, .int 0, .int 0, .ref q4, .null, .null, .int 0, .null, .null, .null, .null, .int 0]) (ci := 9) (ty := .array .int) Y hD iwi_X9_init_X9 tyX9 tyX9_ok nmX9 (q0 := 0) rfl rfl 7 (by decide +kernel) (by decide +kernel) rfl rfl (tyX9_ok 7 (by decide +kernel)) rfl rfl (Nat.le_of_ble_eq_true rfl) dX9_init_44 (fun hD => ?_)
  have hD : va_D A ([(h0, .inr (9, [.ref q1, .ref q2, .int 0, .ref q3, .int 0, .int 0, .ref q4, .ref q5, .null, .int 0, .null, .null, .null, .null, .int 0])), (q1, .inl (cI, 642, .inl (fun _ => 0))), (q2, .inl (cI, 2568, .inl (fun _ => 0))), (q3, .inl (cI, 200, .inl (fun _ => 0))), (q4, .inl (cI, 40, .inl (fun _ => 0))), (q5, .inl (cI, 40, .inl (fun _ => 0)))] : va_W) := hD
  refine jw_in (Wf := kWs ([(h0, .inr (9, [.ref q1, .ref q2, .int 0, .ref q3, .int 0, .int 0, .ref q4, .ref q5, .null, .int 0, .null, .null, .null, .null, .int 0])), (q1, .inl (cI, 642, .inl (fun _ => 0))), (q2, .inl (cI, 2568, .inl (fun _ => 0))), (q3, .inl (cI, 200, .inl (fun _ => 0))), (q4, .inl (cI, 40, .inl (fun _ => 0))), (q5, .inl (cI, 40, .inl (fun _ => 0)))] : va_W)) (C := kC0) (fun H hP => hP) ?_
  refine j_aload_n (pc := 47) X dX9_init_47 rfl ?_
  refine j_bipush (pc := 48) (v := nI 40) X dX9_init_48 (by decide +kernel) ?_
  refine j_newa (cs := 5) (sl := 3490) (N := 40) (pc := 50) Y hD (by decide +kernel) (nI_pos (by decide +kernel)) (nI_clamp (by decide +kernel)) (by decide +kernel) (show 6 ≤ 10 from Nat.le_of_ble_eq_true rfl) (show 3530 ≤ 3690 from Nat.le_of_ble_eq_true rfl) dX9_init_50 (fun q6 hD => ?_)
  have X := Y.x (cs := 6) (sl := 3530) (show 6 ≤ 10 from Nat.le_of_ble_eq_true rfl) (show 3530 ≤ 3690 from Nat.le_of_ble_eq_true rfl)
  refine j_putF (cs := 6) (sl := 3530) (pc := 52) (fs := [.ref q1, .ref q2, .int 0, .ref q3, .int 0, .int 0, .ref q4, .ref q5, .null, .int 0, .null, .null, .null, .null, .int 0]) (ci := 9) (ty := .array .int) Y hD iwi_X9_init_X9 tyX9 tyX9_ok nmX9 (q0 := 0) rfl rfl 8 (by decide +kernel) (by decide +kernel) rfl rfl (tyX9_ok 8 (by decide +kernel)) rfl rfl (Nat.le_of_ble_eq_true rfl) dX9_init_52 (fun hD => ?_)
  have hD : va_D A ([(h0, .inr (9, [.ref q1, .ref q2, .int 0, .ref q3, .int 0, .int 0, .ref q4, .ref q5, .ref q6, .int 0, .null, .null, .null, .null, .int 0])), (q1, .inl (cI, 642, .inl (fun _ => 0))), (q2, .inl (cI, 2568, .inl (fun _ => 0))), (q3, .inl (cI, 200, .inl (fun _ => 0))), (q4, .inl (cI, 40, .inl (fun _ => 0))), (q5, .inl (cI, 40, .inl (fun _ => 0))), (q6, .inl (cI, 40, .inl (fun _ => 0)))] : va_W) := hD
  refine jw_in (Wf := kWs ([(h0, .inr (9, [.ref q1, .ref q2, .int 0, .ref q3, .int 0, .int 0, .ref q4, .ref q5, .ref q6, .int 0, .null, .null, .null, .null, .int 0])), (q1, .inl (cI, 642, .inl (fun _ => 0))), (q2, .inl (cI, 2568, .inl (fun _ => 0))), (q3, .inl (cI, 200, .inl (fun _ => 0))), (q4, .inl (cI, 40, .inl (fun _ => 0))), (q5, .inl (cI, 40, .inl (fun _ => 0))), (q6, .inl (cI, 40, .inl (fun _ => 0)))] : va_W)) (C := kC0) (fun H hP => hP) ?_
  refine j_aload_n (pc := 55) X dX9_init_55 rfl ?_
  refine j_bipush (pc := 56) (v := nI 40) X dX9_init_56 (by decide +kernel) ?_
  refine j_newa (cs := 6) (sl := 3530) (N := 40) (pc := 58) Y hD (by decide +kernel) (nI_pos (by decide +kernel)) (nI_clamp (by decide +kernel)) (by decide +kernel) (show 7 ≤ 10 from Nat.le_of_ble_eq_true rfl) (show 3570 ≤ 3690 from Nat.le_of_ble_eq_true rfl) dX9_init_58 (fun q7 hD => ?_)
  have X := Y.x (cs := 7) (sl := 3570) (show 7 ≤ 10 from Nat.le_of_ble_eq_true rfl) (show 3570 ≤ 3690 from Nat.le_of_ble_eq_true rfl)
  refine j_putF (cs := 7) (sl := 3570) (pc := 60) (fs := [.ref q1, .ref q2, .int 0, .ref q3, .int 0, .int 0, .ref q4, .ref q5, .ref q6, .int 0, .null, .null, .null, .null, .int 0]) (ci := 9) (ty := .array .int) Y hD iwi_X9_init_X9 tyX9 tyX9_ok nmX9 (q0 := 0) rfl rfl 10 (by decide +kernel) (by decide +kernel) rfl rfl (tyX9_ok 10 (by decide +kernel)) rfl rfl (Nat.le_of_ble_eq_true rfl) dX9_init_60 (fun hD => ?_)
  have hD : va_D A ([(h0, .inr (9, [.ref q1, .ref q2, .int 0, .ref q3, .int 0, .int 0, .ref q4, .ref q5, .ref q6, .int 0, .ref q7, .null, .null, .null, .int 0])), (q1, .inl (cI, 642, .inl (fun _ => 0))), (q2, .inl (cI, 2568, .inl (fun _ => 0))), (q3, .inl (cI, 200, .inl (fun _ => 0))), (q4, .inl (cI, 40, .inl (fun _ => 0))), (q5, .inl (cI, 40, .inl (fun _ => 0))), (q6, .inl (cI, 40, .inl (fun _ => 0))), (q7, .inl (cI, 40, .inl (fun _ => 0)))] : va_W) := hD
  refine jw_in (Wf := kWs ([(h0, .inr (9, [.ref q1, .ref q2, .int 0, .ref q3, .int 0, .int 0, .ref q4, .ref q5, .ref q6, .int 0, .ref q7, .null, .null, .null, .int 0])), (q1, .inl (cI, 642, .inl (fun _ => 0))), (q2, .inl (cI, 2568, .inl (fun _ => 0))), (q3, .inl (cI, 200, .inl (fun _ => 0))), (q4, .inl (cI, 40, .inl (fun _ => 0))), (q5, .inl (cI, 40, .inl (fun _ => 0))), (q6, .inl (cI, 40, .inl (fun _ => 0))), (q7, .inl (cI, 40, .inl (fun _ => 0)))] : va_W)) (C := kC0) (fun H hP => hP) ?_
  refine j_aload_n (pc := 63) X dX9_init_63 rfl ?_
  refine j_bipush (pc := 64) (v := nI 40) X dX9_init_64 (by decide +kernel) ?_
  refine j_newa (cs := 7) (sl := 3570) (N := 40) (pc := 66) Y hD (by decide +kernel) (nI_pos (by decide +kernel)) (nI_clamp (by decide +kernel)) (by decide +kernel) (show 8 ≤ 10 from Nat.le_of_ble_eq_true rfl) (show 3610 ≤ 3690 from Nat.le_of_ble_eq_true rfl) dX9_init_66 (fun q8 hD => ?_)
  have X := Y.x (cs := 8) (sl := 3610) (show 8 ≤ 10 from Nat.le_of_ble_eq_true rfl) (show 3610 ≤ 3690 from Nat.le_of_ble_eq_true rfl)
  refine j_putF (cs := 8) (sl := 3610) (pc := 68) (fs := [.ref q1, .ref q2, .int 0, .ref q3, .int 0, .int 0, .ref q4, .ref q5, .ref q6, .int 0, .ref q7, .null, .null, .null, .int 0]) (ci := 9) (ty := .array .int) Y hD iwi_X9_init_X9 tyX9 tyX9_ok nmX9 (q0 := 0) rfl rfl 11 (by decide +kernel) (by decide +kernel) rfl rfl (tyX9_ok 11 (by decide +kernel)) rfl rfl (Nat.le_of_ble_eq_true rfl) dX9_init_68 (fun hD => ?_)
  have hD : va_D A ([(h0, .inr (9, [.ref q1, .ref q2, .int 0, .ref q3, .int 0, .int 0, .ref q4, .ref q5, .ref q6, .int 0, .ref q7, .ref q8, .null, .null, .int 0])), (q1, .inl (cI, 642, .inl (fun _ => 0))), (q2, .inl (cI, 2568, .inl (fun _ => 0))), (q3, .inl (cI, 200, .inl (fun _ => 0))), (q4, .inl (cI, 40, .inl (fun _ => 0))), (q5, .inl (cI, 40, .inl (fun _ => 0))), (q6, .inl (cI, 40, .inl (fun _ => 0))), (q7, .inl (cI, 40, .inl (fun _ => 0))), (q8, .inl (cI, 40, .inl (fun _ => 0)))] : va_W) := hD
  refine jw_in (Wf := kWs ([(h0, .inr (9, [.ref q1, .ref q2, .int 0, .ref q3, .int 0, .int 0, .ref q4, .ref q5, .ref q6, .int 0, .ref q7, .ref q8, .null, .null, .int 0])), (q1, .inl (cI, 642, .inl (fun _ => 0))), (q2, .inl (cI, 2568, .inl (fun _ => 0))), (q3, .inl (cI, 200, .inl (fun _ => 0))), (q4, .inl (cI, 40, .inl (fun _ => 0))), (q5, .inl (cI, 40, .inl (fun _ => 0))), (q6, .inl (cI, 40, .inl (fun _ => 0))), (q7, .inl (cI, 40, .inl (fun _ => 0))), (q8, .inl (cI, 40, .inl (fun _ => 0)))] : va_W)) (C := kC0) (fun H hP => hP) ?_
  refine j_aload_n (pc := 71) X dX9_init_71 rfl ?_
  refine j_bipush (pc := 72) (v := nI 40) X dX9_init_72 (by decide +kernel) ?_
  refine j_newa (cs := 8) (sl := 3610) (N := 40) (pc := 74) Y hD (by decide +kernel) (nI_pos (by decide +kernel)) (nI_clamp (by decide +kernel)) (by decide +kernel) (show 9 ≤ 10 from Nat.le_of_ble_eq_true rfl) (show 3650 ≤ 3690 from Nat.le_of_ble_eq_true rfl) dX9_init_74 (fun q9 hD => ?_)
  have X := Y.x (cs := 9) (sl := 3650) (show 9 ≤ 10 from Nat.le_of_ble_eq_true rfl) (show 3650 ≤ 3690 from Nat.le_of_ble_eq_true rfl)
  refine j_putF (cs := 9) (sl := 3650) (pc := 76) (fs := [.ref q1, .ref q2, .int 0, .ref q3, .int 0, .int 0, .ref q4, .ref q5, .ref q6, .int 0, .ref q7, .ref q8, .null, .null, .int 0]) (ci := 9) (ty := .array .int) Y hD iwi_X9_init_X9 tyX9 tyX9_ok nmX9 (q0 := 0) rfl rfl 12 (by decide +kernel) (by decide +kernel) rfl rfl (tyX9_ok 12 (by decide +kernel)) rfl rfl (Nat.le_of_ble_eq_true rfl) dX9_init_76 (fun hD => ?_)
  have hD : va_D A ([(h0, .inr (9, [.ref q1, .ref q2, .int 0, .ref q3, .int 0, .int 0, .ref q4, .ref q5, .ref q6, .int 0, .ref q7, .ref q8, .ref q9, .null, .int 0])), (q1, .inl (cI, 642, .inl (fun _ => 0))), (q2, .inl (cI, 2568, .inl (fun _ => 0))), (q3, .inl (cI, 200, .inl (fun _ => 0))), (q4, .inl (cI, 40, .inl (fun _ => 0))), (q5, .inl (cI, 40, .inl (fun _ => 0))), (q6, .inl (cI, 40, .inl (fun _ => 0))), (q7, .inl (cI, 40, .inl (fun _ => 0))), (q8, .inl (cI, 40, .inl (fun _ => 0))), (q9, .inl (cI, 40, .inl (fun _ => 0)))] : va_W) := hD
  refine jw_in (Wf := kWs ([(h0, .inr (9, [.ref q1, .ref q2, .int 0, .ref q3, .int 0, .int 0, .ref q4, .ref q5, .ref q6, .int 0, .ref q7, .ref q8, .ref q9, .null, .int 0])), (q1, .inl (cI, 642, .inl (fun _ => 0))), (q2, .inl (cI, 2568, .inl (fun _ => 0))), (q3, .inl (cI, 200, .inl (fun _ => 0))), (q4, .inl (cI, 40, .inl (fun _ => 0))), (q5, .inl (cI, 40, .inl (fun _ => 0))), (q6, .inl (cI, 40, .inl (fun _ => 0))), (q7, .inl (cI, 40, .inl (fun _ => 0))), (q8, .inl (cI, 40, .inl (fun _ => 0))), (q9, .inl (cI, 40, .inl (fun _ => 0)))] : va_W)) (C := kC0) (fun H hP => hP) ?_
  refine j_aload_n (pc := 79) X dX9_init_79 rfl ?_
  refine j_bipush (pc := 80) (v := nI 40) X dX9_init_80 (by decide +kernel) ?_
  refine j_newa (cs := 9) (sl := 3650) (N := 40) (pc := 82) Y hD (by decide +kernel) (nI_pos (by decide +kernel)) (nI_clamp (by decide +kernel)) (by decide +kernel) (show 10 ≤ 10 from Nat.le_of_ble_eq_true rfl) (show 3690 ≤ 3690 from Nat.le_of_ble_eq_true rfl) dX9_init_82 (fun q10 hD => ?_)
  have X := Y.x (cs := 10) (sl := 3690) (show 10 ≤ 10 from Nat.le_of_ble_eq_true rfl) (show 3690 ≤ 3690 from Nat.le_of_ble_eq_true rfl)
  refine j_putF (cs := 10) (sl := 3690) (pc := 84) (fs := [.ref q1, .ref q2, .int 0, .ref q3, .int 0, .int 0, .ref q4, .ref q5, .ref q6, .int 0, .ref q7, .ref q8, .ref q9, .null, .int 0]) (ci := 9) (ty := .array .int) Y hD iwi_X9_init_X9 tyX9 tyX9_ok nmX9 (q0 := 0) rfl rfl 13 (by decide +kernel) (by decide +kernel) rfl rfl (tyX9_ok 13 (by decide +kernel)) rfl rfl (Nat.le_of_ble_eq_true rfl) dX9_init_84 (fun hD => ?_)
  have hD : va_D A ([(h0, .inr (9, [.ref q1, .ref q2, .int 0, .ref q3, .int 0, .int 0, .ref q4, .ref q5, .ref q6, .int 0, .ref q7, .ref q8, .ref q9, .ref q10, .int 0])), (q1, .inl (cI, 642, .inl (fun _ => 0))), (q2, .inl (cI, 2568, .inl (fun _ => 0))), (q3, .inl (cI, 200, .inl (fun _ => 0))), (q4, .inl (cI, 40, .inl (fun _ => 0))), (q5, .inl (cI, 40, .inl (fun _ => 0))), (q6, .inl (cI, 40, .inl (fun _ => 0))), (q7, .inl (cI, 40, .inl (fun _ => 0))), (q8, .inl (cI, 40, .inl (fun _ => 0))), (q9, .inl (cI, 40, .inl (fun _ => 0))), (q10, .inl (cI, 40, .inl (fun _ => 0)))] : va_W) := hD
  refine jw_in (Wf := kWs ([(h0, .inr (9, [.ref q1, .ref q2, .int 0, .ref q3, .int 0, .int 0, .ref q4, .ref q5, .ref q6, .int 0, .ref q7, .ref q8, .ref q9, .ref q10, .int 0])), (q1, .inl (cI, 642, .inl (fun _ => 0))), (q2, .inl (cI, 2568, .inl (fun _ => 0))), (q3, .inl (cI, 200, .inl (fun _ => 0))), (q4, .inl (cI, 40, .inl (fun _ => 0))), (q5, .inl (cI, 40, .inl (fun _ => 0))), (q6, .inl (cI, 40, .inl (fun _ => 0))), (q7, .inl (cI, 40, .inl (fun _ => 0))), (q8, .inl (cI, 40, .inl (fun _ => 0))), (q9, .inl (cI, 40, .inl (fun _ => 0))), (q10, .inl (cI, 40, .inl (fun _ => 0)))] : va_W)) (C := kC0) (fun H hP => hP) ?_
  obtain ⟨am, ham⟩ : ∃ am : Nat → Nat, am = (fun i => if i = 0 then h0 else if i = 1 then q1 else if i = 2 then q2 else if i = 3 then q3 else if i = 4 then q4 else if i = 5 then q5 else if i = 6 then q6 else if i = 7 then q7 else if i = 8 then q8 else if i = 9 then q9 else q10) := ⟨_, rfl⟩
  have h0a : am 0 = h0 := by rw [ham]; rfl
  have hWM : ([(h0, .inr (9, [.ref q1, .ref q2, .int 0, .ref q3, .int 0, .int 0, .ref q4, .ref q5, .ref q6, .int 0, .ref q7, .ref q8, .ref q9, .ref q10, .int 0])), (q1, .inl (cI, 642, .inl (fun _ => 0))), (q2, .inl (cI, 2568, .inl (fun _ => 0))), (q3, .inl (cI, 200, .inl (fun _ => 0))), (q4, .inl (cI, 40, .inl (fun _ => 0))), (q5, .inl (cI, 40, .inl (fun _ => 0))), (q6, .inl (cI, 40, .inl (fun _ => 0))), (q7, .inl (cI, 40, .inl (fun _ => 0))), (q8, .inl (cI, 40, .inl (fun _ => 0))), (q9, .inl (cI, 40, .inl (fun _ => 0))), (q10, .inl (cI, 40, .inl (fun _ => 0)))] : va_W) = WM cI am (fun _ _ => 0) := by rw [ham]; rfl
  rw [hWM] at hD
  refine jw_in (Wf := WM cI am) (C := fun _ _ => 0) (fun H hP => (by rw [← hWM]; exact hP)) ?_
  have Yw : Kw (gS g 10 3690) (WM cI am) A := ⟨Y.2.1, fun M => m9_D hD M⟩
  rw [← h0a]
  exact m9_set X Yw (fun lv => jw_out (hR 231 lv am (WM cI am (mk9 26)) dX9_init_231 h0a rfl (m9_D hD _)))
