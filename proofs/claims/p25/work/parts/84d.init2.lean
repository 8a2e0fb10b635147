/-! ===== constructors: State, Forms, Bars, Sheet ===== -/
def eSt (cI : ClassId) (tw tv : Nat) : (Nat → Prop) → State → Prop := fun A U => (va_Z RX8 "FIRST_WIDTHS" "[I" (.ref tw) A U U.heap ∧ sT cI tw 26 FWt A U) ∧ (va_Z RX8 "FIRST_VALUES" "[I" (.ref tv) A U U.heap ∧ sT cI tv 5 FVt A U) ∧ nCl U
theorem Z_to {n d : String} {v : Value} {A B : Nat → Prop} {s U : State} (h : va_Z RX8 n d v A s s.heap) (hW : s.WarmedH U.vm) (hk : ∀ q : Nat, q < s.heap.size → ¬ A q → U.heap[q]? = s.heap[q]?) (hB : ∀ q, B q → A q) : va_Z RX8 n d v B U U.heap := (va_Z.moved hW.alike (va_Z.kept h hk)).narrow hB
theorem eSt_ok (cI : ClassId) (tw tv : Nat) : eOk (eSt cI tw tv) := ⟨fun B U fr mk a h => ⟨⟨va_Z.moved (Vm.Alike.refl U.vm) h.1.1, h.1.2⟩, ⟨va_Z.moved (Vm.Alike.refl U.vm) h.2.1.1, h.2.1.2⟩, h.2.2.same rfl rfl⟩, fun A B s U h hW hk hB => ⟨⟨Z_to h.1.1 hW hk hB, h.1.2.to hk hB⟩, ⟨Z_to h.2.1.1 hW hk hB, h.2.1.2.to hk hB⟩, h.2.2.warmC hW⟩⟩
section KS2
variable {g : kG} {cI cS : ClassId} {cc : ByteArray} {own : String} {Ts : List Cond} {nL : Nat} {rm : Room} {A : Nat → Prop} {E : (Nat → Prop) → State → Prop} {cs sl pc : Nat} {lv : List (Option Value)} {st : List Value} {ws : va_W}
theorem j_getsN (Y : Ky g cI cS cc own Ts nL rm A E) {n : String} {v : Value} {index : Nat} (hZ : va_Z RX8 n "[I" v A g.1.2.2.2.2 g.1.2.2.2.2.heap) (hlk : (own, index, RX8, n, "[I") ∈ kNF) (hdg : decode cc pc = .ok (.getstatic index, 3)) (kk : JW g cs sl nL ws (pc + 3) lv (v :: st)) : JW g cs sl nL ws pc lv st := fun H locs ls hP hS hl =>
  va_getsN Y.1.1 Y.1.2.1 hZ (Eq.mp (congrFun (congrFun Y.2.1 H) locs) hS) Y.1.2.2.2.1 (va_Nw.use rfl (Y.1.2.2.2.2.2.1.2.1 _ hlk)) (fun _ h9 => h9) hdg (kk H locs ls hP hS hl)
end KS2
def wStateI (cI : ClassId) (ad : Nat → Nat) : va_W := (ad 0, .inr (5, [.ref (ad 1), .ref (ad 6), .ref (ad 11), .ref (ad 16), .ref (ad 18)])) :: ((((wWordsI cI 40 12 (fun i => ad (i + 1)) ++ wWordsI cI 8 8 (fun i => ad (i + 6))) ++ wWordsI cI 4 3 (fun i => ad (i + 11))) ++ wRow cI 26 FWt (fun i => ad (i + 16))) ++ wRow cI 5 FVt (fun i => ad (i + 18)))
abbrev rmi_X5 : Room := { frames := 3, cells := 19, slots := 662, locals := 70 }
theorem iwi_X5_init_X5 : ∀ w ∈ u_ws RX5 TX5 5, w ∈ wsX5_init := by decide +kernel
theorem iwi_X5_init_X7 : ∀ w ∈ u_ws RX7 TX7 5, w ∈ wsX5_init := by decide +kernel
theorem iwi_X5_init_X3 : ∀ w ∈ u_ws RX3 TX3 1, w ∈ wsX5_init := by decide +kernel
theorem c_X5_init (l : Launch) (D : va_G) (cI cS : ClassId) (h0 tw tv : Nat) : mC l yX5_init wsX5_init rmi_X5 D cI cS (eSt cI tw tv) h0 (.inr (5, [.null, .null, .null, .null, .null])) [] (wStateI cI) 19 662 := by
  refine mC.of (cc := cX5_init) (nL := 1) (by decide) rfl rfl (Nat.le_of_ble_eq_true rfl) rfl (eSt_ok cI tw tv) (fun g A hl1 hD1 Y hD hR => ?_)
  subst hl1
  subst hD1
  have hE := Y.2.2.2.2.1
  have X := Y.x (cs := 0) (sl := 0) (show 0 ≤ 19 from Nat.le_of_ble_eq_true rfl) (show 0 ≤ 662 from Nat.le_of_ble_eq_true rfl)
  refine j_aload_n (pc := 0) X dX5_init_0 rfl ?_
  refine j_objInit (pc := 1) Y (by decide +kernel) (by decide +kernel) (by decide +kernel) (Nat.le_of_ble_eq_true rfl) (Nat.le_of_ble_eq_true rfl) dX5_init_1 ?_
  refine j_aload_n (pc := 4) X dX5_init_4 rfl ?_
  refine j_new (pc := 5) (fs := [.int 0, .int 0, .null, .null, .int 0]) (ci := 7) Y hD iwi_X5_init_X7 tyX7 tyX7_ok (by decide +kernel) (by decide +kernel) (by decide +kernel) rfl (fun j hj => by rcases (show j = 0 ∨ j = 1 ∨ j = 2 ∨ j = 3 ∨ j = 4 by omega) with rfl | rfl | rfl | rfl | rfl <;> rfl) (show 0 + 1 ≤ 19 from Nat.le_of_ble_eq_true rfl) (show 0 + 5 ≤ 662 from Nat.le_of_ble_eq_true rfl) dX5_init_5 (fun q1 hD => ?_)
  have X := Y.x (cs := 0 + 1) (sl := 0 + 5) (show 0 + 1 ≤ 19 from Nat.le_of_ble_eq_true rfl) (show 0 + 5 ≤ 662 from Nat.le_of_ble_eq_true rfl)
  refine j_dup (pc := 8) X dX5_init_8 rfl ?_
  refine j_bipush (pc := 9) (v := nI 40) X dX5_init_9 (by decide) ?_
  refine j_bipush (pc := 11) (v := nI 12) X dX5_init_11 (by decide) ?_
  refine j_newc (ms := 522) (pc := 13) (pre := [(h0, .inr (5, [.null, .null, .null, .null, .null]))]) (As := [.int (nI 40), .int (nI 12)]) (maxL := 3) Y hD (c_X7_init g.1.2.1 g.2.2.2.1 cI cS q1 40 12 (by decide) (by decide)) eNo_ok (fun _ _ _ => trivial) gX5_init_X7_init rfl rfl rfl (by decide +kernel) (by decide +kernel) (by decide +kernel) rfl (n := 2) (by decide +kernel) ⟨Nat.le_of_ble_eq_true rfl, Nat.le_of_ble_eq_true rfl⟩ rfl (show 0 + 1 + 4 ≤ 19 from Nat.le_of_ble_eq_true rfl) (show 0 + 5 + 522 ≤ 662 from Nat.le_of_ble_eq_true rfl) (Nat.le_of_ble_eq_true rfl) rfl dX5_init_13 (fun a1 ha1 hD => ?_)
  have X := Y.x (cs := 0 + 1 + 4) (sl := 0 + 5 + 522) (show 0 + 1 + 4 ≤ 19 from Nat.le_of_ble_eq_true rfl) (show 0 + 5 + 522 ≤ 662 from Nat.le_of_ble_eq_true rfl)
  rw [← ha1]
  refine j_putF (pc := 16) (fs := [.null, .null, .null, .null, .null]) (ci := 5) (ty := .object RX7) Y hD iwi_X5_init_X5 tyX5 tyX5_ok nmX5 (q0 := 0) rfl rfl 0 (by decide) (by decide +kernel) rfl rfl (tyX5_ok 0 (by decide)) rfl rfl (Nat.le_of_ble_eq_true rfl) dX5_init_16 (fun hD => ?_)
  refine j_aload_n (pc := 19) X dX5_init_19 rfl ?_
  refine j_new (pc := 20) (fs := [.int 0, .int 0, .null, .null, .int 0]) (ci := 7) Y hD iwi_X5_init_X7 tyX7 tyX7_ok (by decide +kernel) (by decide +kernel) (by decide +kernel) rfl (fun j hj => by rcases (show j = 0 ∨ j = 1 ∨ j = 2 ∨ j = 3 ∨ j = 4 by omega) with rfl | rfl | rfl | rfl | rfl <;> rfl) (show 0 + 1 + 4 + 1 ≤ 19 from Nat.le_of_ble_eq_true rfl) (show 0 + 5 + 522 + 5 ≤ 662 from Nat.le_of_ble_eq_true rfl) dX5_init_20 (fun q2 hD => ?_)
  have X := Y.x (cs := 0 + 1 + 4 + 1) (sl := 0 + 5 + 522 + 5) (show 0 + 1 + 4 + 1 ≤ 19 from Nat.le_of_ble_eq_true rfl) (show 0 + 5 + 522 + 5 ≤ 662 from Nat.le_of_ble_eq_true rfl)
  refine j_dup (pc := 23) X dX5_init_23 rfl ?_
  refine j_bipush (pc := 24) (v := nI 8) X dX5_init_24 (by decide) ?_
  refine j_bipush (pc := 26) (v := nI 8) X dX5_init_26 (by decide) ?_
  refine j_newc (ms := 74) (pc := 28) (pre := (h0, .inr (5, [.ref (a1 0), .null, .null, .null, .null])) :: wWordsI cI 40 12 a1) (As := [.int (nI 8), .int (nI 8)]) (maxL := 3) Y hD (c_X7_init g.1.2.1 g.2.2.2.1 cI cS q2 8 8 (by decide) (by decide)) eNo_ok (fun _ _ _ => trivial) gX5_init_X7_init rfl rfl rfl (by decide +kernel) (by decide +kernel) (by decide +kernel) rfl (n := 2) (by decide +kernel) ⟨Nat.le_of_ble_eq_true rfl, Nat.le_of_ble_eq_true rfl⟩ rfl (show 0 + 1 + 4 + 1 + 4 ≤ 19 from Nat.le_of_ble_eq_true rfl) (show 0 + 5 + 522 + 5 + 74 ≤ 662 from Nat.le_of_ble_eq_true rfl) (Nat.le_of_ble_eq_true rfl) rfl dX5_init_28 (fun a2 ha2 hD => ?_)
  have X := Y.x (cs := 0 + 1 + 4 + 1 + 4) (sl := 0 + 5 + 522 + 5 + 74) (show 0 + 1 + 4 + 1 + 4 ≤ 19 from Nat.le_of_ble_eq_true rfl) (show 0 + 5 + 522 + 5 + 74 ≤ 662 from Nat.le_of_ble_eq_true rfl)
  rw [← ha2]
  refine j_putF (pc := 31) (fs := [.ref (a1 0), .null, .null, .null, .null]) (ci := 5) (ty := .object RX7) Y hD iwi_X5_init_X5 tyX5 tyX5_ok nmX5 (q0 := 0) rfl rfl 1 (by decide) (by decide +kernel) rfl rfl (tyX5_ok 1 (by decide)) rfl rfl (Nat.le_of_ble_eq_true rfl) dX5_init_31 (fun hD => ?_)
  refine j_aload_n (pc := 34) X dX5_init_34 rfl ?_
  refine j_new (pc := 35) (fs := [.int 0, .int 0, .null, .null, .int 0]) (ci := 7) Y hD iwi_X5_init_X7 tyX7 tyX7_ok (by decide +kernel) (by decide +kernel) (by decide +kernel) rfl (fun j hj => by rcases (show j = 0 ∨ j = 1 ∨ j = 2 ∨ j = 3 ∨ j = 4 by omega) with rfl | rfl | rfl | rfl | rfl <;> rfl) (show 0 + 1 + 4 + 1 + 4 + 1 ≤ 19 from Nat.le_of_ble_eq_true rfl) (show 0 + 5 + 522 + 5 + 74 + 5 ≤ 662 from Nat.le_of_ble_eq_true rfl) dX5_init_35 (fun q3 hD => ?_)
  have X := Y.x (cs := 0 + 1 + 4 + 1 + 4 + 1) (sl := 0 + 5 + 522 + 5 + 74 + 5) (show 0 + 1 + 4 + 1 + 4 + 1 ≤ 19 from Nat.le_of_ble_eq_true rfl) (show 0 + 5 + 522 + 5 + 74 + 5 ≤ 662 from Nat.le_of_ble_eq_true rfl)
  refine j_dup (pc := 38) X dX5_init_38 rfl ?_
  refine j_iconst (pc := 39) (v := nI 4) X dX5_init_39 (by decide) ?_
  refine j_iconst (pc := 40) (v := nI 3) X dX5_init_40 (by decide) ?_
  refine j_newc (ms := 18) (pc := 41) (pre := (h0, .inr (5, [.ref (a1 0), .ref (a2 0), .null, .null, .null])) :: (wWordsI cI 40 12 a1 ++ wWordsI cI 8 8 a2)) (As := [.int (nI 4), .int (nI 3)]) (maxL := 3) Y hD (c_X7_init g.1.2.1 g.2.2.2.1 cI cS q3 4 3 (by decide) (by decide)) eNo_ok (fun _ _ _ => trivial) gX5_init_X7_init rfl rfl rfl (by decide +kernel) (by decide +kernel) (by decide +kernel) rfl (n := 2) (by decide +kernel) ⟨Nat.le_of_ble_eq_true rfl, Nat.le_of_ble_eq_true rfl⟩ rfl (show 0 + 1 + 4 + 1 + 4 + 1 + 4 ≤ 19 from Nat.le_of_ble_eq_true rfl) (show 0 + 5 + 522 + 5 + 74 + 5 + 18 ≤ 662 from Nat.le_of_ble_eq_true rfl) (Nat.le_of_ble_eq_true rfl) rfl dX5_init_41 (fun a3 ha3 hD => ?_)
  have X := Y.x (cs := 0 + 1 + 4 + 1 + 4 + 1 + 4) (sl := 0 + 5 + 522 + 5 + 74 + 5 + 18) (show 0 + 1 + 4 + 1 + 4 + 1 + 4 ≤ 19 from Nat.le_of_ble_eq_true rfl) (show 0 + 5 + 522 + 5 + 74 + 5 + 18 ≤ 662 from Nat.le_of_ble_eq_true rfl)
  rw [← ha3]
  refine j_putF (pc := 44) (fs := [.ref (a1 0), .ref (a2 0), .null, .null, .null]) (ci := 5) (ty := .object RX7) Y hD iwi_X5_init_X5 tyX5 tyX5_ok nmX5 (q0 := 0) rfl rfl 2 (by decide) (by decide +kernel) rfl rfl (tyX5_ok 2 (by decide)) rfl rfl (Nat.le_of_ble_eq_true rfl) dX5_init_44 (fun hD => ?_)
  refine j_aload_n (pc := 47) X dX5_init_47 rfl ?_
  refine j_new (pc := 48) (fs := [.null]) (ci := 3) Y hD iwi_X5_init_X3 tyX3 tyX3_ok (by decide +kernel) (by decide +kernel) (by decide +kernel) rfl (fun j hj => by rcases (show j = 0 by omega) with rfl <;> rfl) (show 0 + 1 + 4 + 1 + 4 + 1 + 4 + 1 ≤ 19 from Nat.le_of_ble_eq_true rfl) (show 0 + 5 + 522 + 5 + 74 + 5 + 18 + 1 ≤ 662 from Nat.le_of_ble_eq_true rfl) dX5_init_48 (fun q4 hD => ?_)
  have X := Y.x (cs := 0 + 1 + 4 + 1 + 4 + 1 + 4 + 1) (sl := 0 + 5 + 522 + 5 + 74 + 5 + 18 + 1) (show 0 + 1 + 4 + 1 + 4 + 1 + 4 + 1 ≤ 19 from Nat.le_of_ble_eq_true rfl) (show 0 + 5 + 522 + 5 + 74 + 5 + 18 + 1 ≤ 662 from Nat.le_of_ble_eq_true rfl)
  refine j_dup (pc := 51) X dX5_init_51 rfl ?_
  refine j_getsN (pc := 52) Y hE.1.1 (by decide +kernel) dX5_init_52 ?_
  refine j_newc (ms := 26) (pc := 55) (pre := (h0, .inr (5, [.ref (a1 0), .ref (a2 0), .ref (a3 0), .null, .null])) :: ((wWordsI cI 40 12 a1 ++ wWordsI cI 8 8 a2) ++ wWordsI cI 4 3 a3)) (As := [.ref tw]) (maxL := 2) Y hD (c_X3_init_ g.1.2.1 g.2.2.2.1 cI cS q4 tw 26 FWt) (eArr_ok cI tw 26 FWt) (fun _ _ h => ⟨h.1.2, h.2.2⟩) gX5_init_X3_init_ rfl rfl rfl (by decide +kernel) (by decide +kernel) (by decide +kernel) rfl (n := 1) (by decide +kernel) ⟨Nat.le_of_ble_eq_true rfl, Nat.le_of_ble_eq_true rfl⟩ rfl (show 0 + 1 + 4 + 1 + 4 + 1 + 4 + 1 + 1 ≤ 19 from Nat.le_of_ble_eq_true rfl) (show 0 + 5 + 522 + 5 + 74 + 5 + 18 + 1 + 26 ≤ 662 from Nat.le_of_ble_eq_true rfl) (Nat.le_of_ble_eq_true rfl) rfl dX5_init_55 (fun a4 ha4 hD => ?_)
  have X := Y.x (cs := 0 + 1 + 4 + 1 + 4 + 1 + 4 + 1 + 1) (sl := 0 + 5 + 522 + 5 + 74 + 5 + 18 + 1 + 26) (show 0 + 1 + 4 + 1 + 4 + 1 + 4 + 1 + 1 ≤ 19 from Nat.le_of_ble_eq_true rfl) (show 0 + 5 + 522 + 5 + 74 + 5 + 18 + 1 + 26 ≤ 662 from Nat.le_of_ble_eq_true rfl)
  rw [← ha4]
  refine j_putF (pc := 58) (fs := [.ref (a1 0), .ref (a2 0), .ref (a3 0), .null, .null]) (ci := 5) (ty := .object RX3) Y hD iwi_X5_init_X5 tyX5 tyX5_ok nmX5 (q0 := 0) rfl rfl 3 (by decide) (by decide +kernel) rfl rfl (tyX5_ok 3 (by decide)) rfl rfl (Nat.le_of_ble_eq_true rfl) dX5_init_58 (fun hD => ?_)
  refine j_aload_n (pc := 61) X dX5_init_61 rfl ?_
  refine j_new (pc := 62) (fs := [.null]) (ci := 3) Y hD iwi_X5_init_X3 tyX3 tyX3_ok (by decide +kernel) (by decide +kernel) (by decide +kernel) rfl (fun j hj => by rcases (show j = 0 by omega) with rfl <;> rfl) (show 0 + 1 + 4 + 1 + 4 + 1 + 4 + 1 + 1 + 1 ≤ 19 from Nat.le_of_ble_eq_true rfl) (show 0 + 5 + 522 + 5 + 74 + 5 + 18 + 1 + 26 + 1 ≤ 662 from Nat.le_of_ble_eq_true rfl) dX5_init_62 (fun q5 hD => ?_)
  have X := Y.x (cs := 0 + 1 + 4 + 1 + 4 + 1 + 4 + 1 + 1 + 1) (sl := 0 + 5 + 522 + 5 + 74 + 5 + 18 + 1 + 26 + 1) (show 0 + 1 + 4 + 1 + 4 + 1 + 4 + 1 + 1 + 1 ≤ 19 from Nat.le_of_ble_eq_true rfl) (show 0 + 5 + 522 + 5 + 74 + 5 + 18 + 1 + 26 + 1 ≤ 662 from Nat.le_of_ble_eq_true rfl)
  refine j_dup (pc := 65) X dX5_init_65 rfl ?_
  refine j_getsN (pc := 66) Y hE.2.1.1 (by decide +kernel) dX5_init_66 ?_
  refine j_newc (ms := 5) (pc := 69) (pre := (h0, .inr (5, [.ref (a1 0), .ref (a2 0), .ref (a3 0), .ref (a4 0), .null])) :: (((wWordsI cI 40 12 a1 ++ wWordsI cI 8 8 a2) ++ wWordsI cI 4 3 a3) ++ wRow cI 26 FWt a4)) (As := [.ref tv]) (maxL := 2) Y hD (c_X3_init_ g.1.2.1 g.2.2.2.1 cI cS q5 tv 5 FVt) (eArr_ok cI tv 5 FVt) (fun _ _ h => ⟨h.2.1.2, h.2.2⟩) gX5_init_X3_init_ rfl rfl rfl (by decide +kernel) (by decide +kernel) (by decide +kernel) rfl (n := 1) (by decide +kernel) ⟨Nat.le_of_ble_eq_true rfl, Nat.le_of_ble_eq_true rfl⟩ rfl (show 0 + 1 + 4 + 1 + 4 + 1 + 4 + 1 + 1 + 1 + 1 ≤ 19 from Nat.le_of_ble_eq_true rfl) (show 0 + 5 + 522 + 5 + 74 + 5 + 18 + 1 + 26 + 1 + 5 ≤ 662 from Nat.le_of_ble_eq_true rfl) (Nat.le_of_ble_eq_true rfl) rfl dX5_init_69 (fun a5 ha5 hD => ?_)
  have X := Y.x (cs := 0 + 1 + 4 + 1 + 4 + 1 + 4 + 1 + 1 + 1 + 1) (sl := 0 + 5 + 522 + 5 + 74 + 5 + 18 + 1 + 26 + 1 + 5) (show 0 + 1 + 4 + 1 + 4 + 1 + 4 + 1 + 1 + 1 + 1 ≤ 19 from Nat.le_of_ble_eq_true rfl) (show 0 + 5 + 522 + 5 + 74 + 5 + 18 + 1 + 26 + 1 + 5 ≤ 662 from Nat.le_of_ble_eq_true rfl)
  rw [← ha5]
  refine j_putF (pc := 72) (fs := [.ref (a1 0), .ref (a2 0), .ref (a3 0), .ref (a4 0), .null]) (ci := 5) (ty := .object RX3) Y hD iwi_X5_init_X5 tyX5 tyX5_ok nmX5 (q0 := 0) rfl rfl 4 (by decide) (by decide +kernel) rfl rfl (tyX5_ok 4 (by decide)) rfl rfl (Nat.le_of_ble_eq_true rfl) dX5_init_72 (fun hD => ?_)
  exact hR 75 _ (fun i => if i = 0 then h0 else if i < 6 then a1 (i - 1) else if i < 11 then a2 (i - 6) else if i < 16 then a3 (i - 11) else if i < 18 then a4 (i - 16) else a5 (i - 18)) _ dX5_init_75 rfl rfl hD
def wFormsI (cI : ClassId) (ad : Nat → Nat) : va_W := (ad 0, .inr (1, [.ref (ad 1), .ref (ad 3), .ref (ad 5), .int 1, .int 0])) :: ((wRow cI 40 (fun _ => 0) (fun i => ad (i + 1)) ++ wRow cI 40 (fun _ => 0) (fun i => ad (i + 3))) ++ wRow cI 40 (fun _ => 0) (fun i => ad (i + 5)))
abbrev rmi_X1 : Room := { frames := 2, cells := 6, slots := 123, locals := 40 }
theorem iwi_X1_init_X1 : ∀ w ∈ u_ws RX1 TX1 5, w ∈ wsX1_init := by decide +kernel
theorem iwi_X1_init_X3 : ∀ w ∈ u_ws RX3 TX3 1, w ∈ wsX1_init := by decide +kernel
theorem c_X1_init (l : Launch) (D : va_G) (cI cS : ClassId) (h0 : Nat) : mC l yX1_init wsX1_init rmi_X1 D cI cS eNo h0 (.inr (1, [.null, .null, .null, .int 0, .int 0])) [] (wFormsI cI) 6 123 := by
  refine mC.of (cc := cX1_init) (nL := 1) (by decide) rfl rfl (Nat.le_of_ble_eq_true rfl) rfl eNo_ok (fun g A hl1 hD1 Y hD hR => ?_)
  subst hl1
  subst hD1
  have X := Y.x (cs := 0) (sl := 0) (show 0 ≤ 6 from Nat.le_of_ble_eq_true rfl) (show 0 ≤ 123 from Nat.le_of_ble_eq_true rfl)
  refine j_aload_n (pc := 0) X dX1_init_0 rfl ?_
  refine j_objInit (pc := 1) Y (by decide +kernel) (by decide +kernel) (by decide +kernel) (Nat.le_of_ble_eq_true rfl) (Nat.le_of_ble_eq_true rfl) dX1_init_1 ?_
  refine j_aload_n (pc := 4) X dX1_init_4 rfl ?_
  refine j_new (pc := 5) (fs := [.null]) (ci := 3) Y hD iwi_X1_init_X3 tyX3 tyX3_ok (by decide +kernel) (by decide +kernel) (by decide +kernel) rfl (fun j hj => by rcases (show j = 0 by omega) with rfl <;> rfl) (show 0 + 1 ≤ 6 from Nat.le_of_ble_eq_true rfl) (show 0 + 1 ≤ 123 from Nat.le_of_ble_eq_true rfl) dX1_init_5 (fun q1 hD => ?_)
  have X := Y.x (cs := 0 + 1) (sl := 0 + 1) (show 0 + 1 ≤ 6 from Nat.le_of_ble_eq_true rfl) (show 0 + 1 ≤ 123 from Nat.le_of_ble_eq_true rfl)
  refine j_dup (pc := 8) X dX1_init_8 rfl ?_
  refine j_bipush (pc := 9) (v := nI 40) X dX1_init_9 (by decide) ?_
  refine j_newc (ms := 40) (pc := 11) (pre := [(h0, .inr (1, [.null, .null, .null, .int 0, .int 0]))]) (As := [.int (nI 40)]) (maxL := 2) Y hD (c_X3_init g.1.2.1 g.2.2.2.1 cI cS q1 40 (by decide)) eNo_ok (fun _ _ _ => trivial) gX1_init_X3_init rfl rfl rfl (by decide +kernel) (by decide +kernel) (by decide +kernel) rfl (n := 1) (by decide +kernel) ⟨Nat.le_of_ble_eq_true rfl, Nat.le_of_ble_eq_true rfl⟩ rfl (show 0 + 1 + 1 ≤ 6 from Nat.le_of_ble_eq_true rfl) (show 0 + 1 + 40 ≤ 123 from Nat.le_of_ble_eq_true rfl) (Nat.le_of_ble_eq_true rfl) rfl dX1_init_11 (fun a1 ha1 hD => ?_)
  have X := Y.x (cs := 0 + 1 + 1) (sl := 0 + 1 + 40) (show 0 + 1 + 1 ≤ 6 from Nat.le_of_ble_eq_true rfl) (show 0 + 1 + 40 ≤ 123 from Nat.le_of_ble_eq_true rfl)
  rw [← ha1]
  refine j_putF (pc := 14) (fs := [.null, .null, .null, .int 0, .int 0]) (ci := 1) (ty := .object RX3) Y hD iwi_X1_init_X1 tyX1 tyX1_ok nmX1 (q0 := 0) rfl rfl 0 (by decide) (by decide +kernel) rfl rfl (tyX1_ok 0 (by decide)) rfl rfl (Nat.le_of_ble_eq_true rfl) dX1_init_14 (fun hD => ?_)
  refine j_aload_n (pc := 17) X dX1_init_17 rfl ?_
  refine j_new (pc := 18) (fs := [.null]) (ci := 3) Y hD iwi_X1_init_X3 tyX3 tyX3_ok (by decide +kernel) (by decide +kernel) (by decide +kernel) rfl (fun j hj => by rcases (show j = 0 by omega) with rfl <;> rfl) (show 0 + 1 + 1 + 1 ≤ 6 from Nat.le_of_ble_eq_true rfl) (show 0 + 1 + 40 + 1 ≤ 123 from Nat.le_of_ble_eq_true rfl) dX1_init_18 (fun q2 hD => ?_)
  have X := Y.x (cs := 0 + 1 + 1 + 1) (sl := 0 + 1 + 40 + 1) (show 0 + 1 + 1 + 1 ≤ 6 from Nat.le_of_ble_eq_true rfl) (show 0 + 1 + 40 + 1 ≤ 123 from Nat.le_of_ble_eq_true rfl)
  refine j_dup (pc := 21) X dX1_init_21 rfl ?_
  refine j_bipush (pc := 22) (v := nI 40) X dX1_init_22 (by decide) ?_
  refine j_newc (ms := 40) (pc := 24) (pre := (h0, .inr (1, [.ref (a1 0), .null, .null, .int 0, .int 0])) :: wRow cI 40 (fun _ => 0) a1) (As := [.int (nI 40)]) (maxL := 2) Y hD (c_X3_init g.1.2.1 g.2.2.2.1 cI cS q2 40 (by decide)) eNo_ok (fun _ _ _ => trivial) gX1_init_X3_init rfl rfl rfl (by decide +kernel) (by decide +kernel) (by decide +kernel) rfl (n := 1) (by decide +kernel) ⟨Nat.le_of_ble_eq_true rfl, Nat.le_of_ble_eq_true rfl⟩ rfl (show 0 + 1 + 1 + 1 + 1 ≤ 6 from Nat.le_of_ble_eq_true rfl) (show 0 + 1 + 40 + 1 + 40 ≤ 123 from Nat.le_of_ble_eq_true rfl) (Nat.le_of_ble_eq_true rfl) rfl dX1_init_24 (fun a2 ha2 hD => ?_)
  have X := Y.x (cs := 0 + 1 + 1 + 1 + 1) (sl := 0 + 1 + 40 + 1 + 40) (show 0 + 1 + 1 + 1 + 1 ≤ 6 from Nat.le_of_ble_eq_true rfl) (show 0 + 1 + 40 + 1 + 40 ≤ 123 from Nat.le_of_ble_eq_true rfl)
  rw [← ha2]
  refine j_putF (pc := 27) (fs := [.ref (a1 0), .null, .null, .int 0, .int 0]) (ci := 1) (ty := .object RX3) Y hD iwi_X1_init_X1 tyX1 tyX1_ok nmX1 (q0 := 0) rfl rfl 1 (by decide) (by decide +kernel) rfl rfl (tyX1_ok 1 (by decide)) rfl rfl (Nat.le_of_ble_eq_true rfl) dX1_init_27 (fun hD => ?_)
  refine j_aload_n (pc := 30) X dX1_init_30 rfl ?_
  refine j_new (pc := 31) (fs := [.null]) (ci := 3) Y hD iwi_X1_init_X3 tyX3 tyX3_ok (by decide +kernel) (by decide +kernel) (by decide +kernel) rfl (fun j hj => by rcases (show j = 0 by omega) with rfl <;> rfl) (show 0 + 1 + 1 + 1 + 1 + 1 ≤ 6 from Nat.le_of_ble_eq_true rfl) (show 0 + 1 + 40 + 1 + 40 + 1 ≤ 123 from Nat.le_of_ble_eq_true rfl) dX1_init_31 (fun q3 hD => ?_)
  have X := Y.x (cs := 0 + 1 + 1 + 1 + 1 + 1) (sl := 0 + 1 + 40 + 1 + 40 + 1) (show 0 + 1 + 1 + 1 + 1 + 1 ≤ 6 from Nat.le_of_ble_eq_true rfl) (show 0 + 1 + 40 + 1 + 40 + 1 ≤ 123 from Nat.le_of_ble_eq_true rfl)
  refine j_dup (pc := 34) X dX1_init_34 rfl ?_
  refine j_bipush (pc := 35) (v := nI 40) X dX1_init_35 (by decide) ?_
  refine j_newc (ms := 40) (pc := 37) (pre := (h0, .inr (1, [.ref (a1 0), .ref (a2 0), .null, .int 0, .int 0])) :: (wRow cI 40 (fun _ => 0) a1 ++ wRow cI 40 (fun _ => 0) a2)) (As := [.int (nI 40)]) (maxL := 2) Y hD (c_X3_init g.1.2.1 g.2.2.2.1 cI cS q3 40 (by decide)) eNo_ok (fun _ _ _ => trivial) gX1_init_X3_init rfl rfl rfl (by decide +kernel) (by decide +kernel) (by decide +kernel) rfl (n := 1) (by decide +kernel) ⟨Nat.le_of_ble_eq_true rfl, Nat.le_of_ble_eq_true rfl⟩ rfl (show 0 + 1 + 1 + 1 + 1 + 1 + 1 ≤ 6 from Nat.le_of_ble_eq_true rfl) (show 0 + 1 + 40 + 1 + 40 + 1 + 40 ≤ 123 from Nat.le_of_ble_eq_true rfl) (Nat.le_of_ble_eq_true rfl) rfl dX1_init_37 (fun a3 ha3 hD => ?_)
  have X := Y.x (cs := 0 + 1 + 1 + 1 + 1 + 1 + 1) (sl := 0 + 1 + 40 + 1 + 40 + 1 + 40) (show 0 + 1 + 1 + 1 + 1 + 1 + 1 ≤ 6 from Nat.le_of_ble_eq_true rfl) (show 0 + 1 + 40 + 1 + 40 + 1 + 40 ≤ 123 from Nat.le_of_ble_eq_true rfl)
  rw [← ha3]
  refine j_putF (pc := 40) (fs := [.ref (a1 0), .ref (a2 0), .null, .int 0, .int 0]) (ci := 1) (ty := .object RX3) Y hD iwi_X1_init_X1 tyX1 tyX1_ok nmX1 (q0 := 0) rfl rfl 2 (by decide) (by decide +kernel) rfl rfl (tyX1_ok 2 (by decide)) rfl rfl (Nat.le_of_ble_eq_true rfl) dX1_init_40 (fun hD => ?_)
  refine j_aload_n (pc := 43) X dX1_init_43 rfl ?_
  refine j_iconst (pc := 44) (v := 1) X dX1_init_44 (by decide) ?_
  refine j_put0 (pc := 45) (fs := [.ref (a1 0), .ref (a2 0), .ref (a3 0), .int 0, .int 0]) (ci := 1) Y hD (show 0 + 1 + 1 + 1 + 1 + 1 + 1 ≤ 6 from Nat.le_of_ble_eq_true rfl) (show 0 + 1 + 40 + 1 + 40 + 1 + 40 ≤ 123 from Nat.le_of_ble_eq_true rfl) iwi_X1_init_X1 tyX1 tyX1_ok nmX1 (q0 := 0) rfl rfl 3 (by decide) (by decide +kernel) rfl (tyX1_ok 3 (by decide)) (Nat.le_of_ble_eq_true rfl) dX1_init_45 (fun hD => ?_)
  refine j_aload_n (pc := 48) X dX1_init_48 rfl ?_
  refine j_iconst (pc := 49) (v := 0) X dX1_init_49 (by decide) ?_
  refine j_put0 (pc := 50) (fs := [.ref (a1 0), .ref (a2 0), .ref (a3 0), .int 1, .int 0]) (ci := 1) Y hD (show 0 + 1 + 1 + 1 + 1 + 1 + 1 ≤ 6 from Nat.le_of_ble_eq_true rfl) (show 0 + 1 + 40 + 1 + 40 + 1 + 40 ≤ 123 from Nat.le_of_ble_eq_true rfl) iwi_X1_init_X1 tyX1 tyX1_ok nmX1 (q0 := 0) rfl rfl 4 (by decide) (by decide +kernel) rfl (tyX1_ok 4 (by decide)) (Nat.le_of_ble_eq_true rfl) dX1_init_50 (fun hD => ?_)
  exact hR 53 _ (fun i => if i = 0 then h0 else if i < 3 then a1 (i - 1) else if i < 5 then a2 (i - 3) else a3 (i - 5)) _ dX1_init_53 rfl rfl hD
def wBarsI (cI : ClassId) (fm : Nat) (ad : Nat → Nat) : va_W := (ad 0, .inr (0, [.ref fm, .ref (ad 1)])) :: wRow cI 40 (fun _ => 0) (fun i => ad (i + 1))
abbrev rmi_X0 : Room := { frames := 2, cells := 2, slots := 41, locals := 40 }
theorem iwi_X0_init_X0 : ∀ w ∈ u_ws RX0 TX0 2, w ∈ wsX0_init := by decide +kernel
theorem iwi_X0_init_X3 : ∀ w ∈ u_ws RX3 TX3 1, w ∈ wsX0_init := by decide +kernel
theorem c_X0_init (l : Launch) (D : va_G) (cI cS : ClassId) (h0 fm : Nat) : mC l yX0_init wsX0_init rmi_X0 D cI cS eNo h0 (.inr (0, [.null, .null])) [.ref fm] (wBarsI cI fm) 2 41 := by
  refine mC.of (cc := cX0_init) (nL := 2) (by decide) rfl rfl (Nat.le_of_ble_eq_true rfl) rfl eNo_ok (fun g A hl1 hD1 Y hD hR => ?_)
  subst hl1
  subst hD1
  have X := Y.x (cs := 0) (sl := 0) (show 0 ≤ 2 from Nat.le_of_ble_eq_true rfl) (show 0 ≤ 41 from Nat.le_of_ble_eq_true rfl)
  refine j_aload_n (pc := 0) X dX0_init_0 rfl ?_
  refine j_objInit (pc := 1) Y (by decide +kernel) (by decide +kernel) (by decide +kernel) (Nat.le_of_ble_eq_true rfl) (Nat.le_of_ble_eq_true rfl) dX0_init_1 ?_
  refine j_aload_n (pc := 4) X dX0_init_4 rfl ?_
  refine j_aload_n (pc := 5) X dX0_init_5 rfl ?_
  refine j_putF (pc := 6) (fs := [.null, .null]) (ci := 0) (ty := .object RX1) Y hD iwi_X0_init_X0 tyX0 tyX0_ok nmX0 (q0 := 0) rfl rfl 0 (by decide) (by decide +kernel) rfl rfl (tyX0_ok 0 (by decide)) rfl rfl (Nat.le_of_ble_eq_true rfl) dX0_init_6 (fun hD => ?_)
  refine j_aload_n (pc := 9) X dX0_init_9 rfl ?_
  refine j_new (pc := 10) (fs := [.null]) (ci := 3) Y hD iwi_X0_init_X3 tyX3 tyX3_ok (by decide +kernel) (by decide +kernel) (by decide +kernel) rfl (fun j hj => by rcases (show j = 0 by omega) with rfl <;> rfl) (show 0 + 1 ≤ 2 from Nat.le_of_ble_eq_true rfl) (show 0 + 1 ≤ 41 from Nat.le_of_ble_eq_true rfl) dX0_init_10 (fun q1 hD => ?_)
  have X := Y.x (cs := 0 + 1) (sl := 0 + 1) (show 0 + 1 ≤ 2 from Nat.le_of_ble_eq_true rfl) (show 0 + 1 ≤ 41 from Nat.le_of_ble_eq_true rfl)
  refine j_dup (pc := 13) X dX0_init_13 rfl ?_
  refine j_bipush (pc := 14) (v := nI 40) X dX0_init_14 (by decide) ?_
  refine j_newc (ms := 40) (pc := 16) (pre := [(h0, .inr (0, [.ref fm, .null]))]) (As := [.int (nI 40)]) (maxL := 2) Y hD (c_X3_init g.1.2.1 g.2.2.2.1 cI cS q1 40 (by decide)) eNo_ok (fun _ _ _ => trivial) gX0_init_X3_init rfl rfl rfl (by decide +kernel) (by decide +kernel) (by decide +kernel) rfl (n := 1) (by decide +kernel) ⟨Nat.le_of_ble_eq_true rfl, Nat.le_of_ble_eq_true rfl⟩ rfl (show 0 + 1 + 1 ≤ 2 from Nat.le_of_ble_eq_true rfl) (show 0 + 1 + 40 ≤ 41 from Nat.le_of_ble_eq_true rfl) (Nat.le_of_ble_eq_true rfl) rfl dX0_init_16 (fun a1 ha1 hD => ?_)
  have X := Y.x (cs := 0 + 1 + 1) (sl := 0 + 1 + 40) (show 0 + 1 + 1 ≤ 2 from Nat.le_of_ble_eq_true rfl) (show 0 + 1 + 40 ≤ 41 from Nat.le_of_ble_eq_true rfl)
  rw [← ha1]
  refine j_putF (pc := 19) (fs := [.ref fm, .null]) (ci := 0) (ty := .object RX3) Y hD iwi_X0_init_X0 tyX0 tyX0_ok nmX0 (q0 := 0) rfl rfl 1 (by decide) (by decide +kernel) rfl rfl (tyX0_ok 1 (by decide)) rfl rfl (Nat.le_of_ble_eq_true rfl) dX0_init_19 (fun hD => ?_)
  exact hR 22 _ (fun i => if i = 0 then h0 else a1 (i - 1)) _ dX0_init_22 rfl rfl hD
def wSheetI (cI : ClassId) (sa fm : Nat) (ad : Nat → Nat) : va_W := (ad 0, .inr (4, [.ref sa, .ref fm, .ref (ad 1), .ref (ad 3), .ref (ad 5), .ref (ad 7), .ref (ad 9), .ref (ad 11), .int 0])) :: (((((wRow cI 40 (fun _ => 0) (fun i => ad (i + 1)) ++ wRow cI 40 (fun _ => 0) (fun i => ad (i + 3))) ++ wRow cI 40 (fun _ => 0) (fun i => ad (i + 5))) ++ wRow cI 40 (fun _ => 0) (fun i => ad (i + 7))) ++ wRow cI 40 (fun _ => 0) (fun i => ad (i + 9))) ++ wRow cI 40 (fun _ => 0) (fun i => ad (i + 11)))
abbrev rmi_X4 : Room := { frames := 2, cells := 12, slots := 246, locals := 40 }
theorem iwi_X4_init_X4 : ∀ w ∈ u_ws RX4 TX4 9, w ∈ wsX4_init := by decide +kernel
theorem iwi_X4_init_X3 : ∀ w ∈ u_ws RX3 TX3 1, w ∈ wsX4_init := by decide +kernel
theorem c_X4_init (l : Launch) (D : va_G) (cI cS : ClassId) (h0 sa fm : Nat) : mC l yX4_init wsX4_init rmi_X4 D cI cS eNo h0 (.inr (4, [.null, .null, .null, .null, .null, .null, .null, .null, .int 0])) [.ref sa, .ref fm] (wSheetI cI sa fm) 12 246 := by
  refine mC.of (cc := cX4_init) (nL := 3) (by decide) rfl rfl (Nat.le_of_ble_eq_true rfl) rfl eNo_ok (fun g A hl1 hD1 Y hD hR => ?_)
  subst hl1
  subst hD1
  have X := Y.x (cs := 0) (sl := 0) (show 0 ≤ 12 from Nat.le_of_ble_eq_true rfl) (show 0 ≤ 246 from Nat.le_of_ble_eq_true rfl)
  refine j_aload_n (pc := 0) X dX4_init_0 rfl ?_
  refine j_objInit (pc := 1) Y (by decide +kernel) (by decide +kernel) (by decide +kernel) (Nat.le_of_ble_eq_true rfl) (Nat.le_of_ble_eq_true rfl) dX4_init_1 ?_
  refine j_aload_n (pc := 4) X dX4_init_4 rfl ?_
  refine j_aload_n (pc := 5) X dX4_init_5 rfl ?_
  refine j_putF (pc := 6) (fs := [.null, .null, .null, .null, .null, .null, .null, .null, .int 0]) (ci := 4) (ty := .object RX5) Y hD iwi_X4_init_X4 tyX4 tyX4_ok nmX4 (q0 := 0) rfl rfl 0 (by decide) (by decide +kernel) rfl rfl (tyX4_ok 0 (by decide)) rfl rfl (Nat.le_of_ble_eq_true rfl) dX4_init_6 (fun hD => ?_)
  refine j_aload_n (pc := 9) X dX4_init_9 rfl ?_
  refine j_aload_n (pc := 10) X dX4_init_10 rfl ?_
  refine j_putF (pc := 11) (fs := [.ref sa, .null, .null, .null, .null, .null, .null, .null, .int 0]) (ci := 4) (ty := .object RX1) Y hD iwi_X4_init_X4 tyX4 tyX4_ok nmX4 (q0 := 0) rfl rfl 1 (by decide) (by decide +kernel) rfl rfl (tyX4_ok 1 (by decide)) rfl rfl (Nat.le_of_ble_eq_true rfl) dX4_init_11 (fun hD => ?_)
  refine j_aload_n (pc := 14) X dX4_init_14 rfl ?_
  refine j_new (pc := 15) (fs := [.null]) (ci := 3) Y hD iwi_X4_init_X3 tyX3 tyX3_ok (by decide +kernel) (by decide +kernel) (by decide +kernel) rfl (fun j hj => by rcases (show j = 0 by omega) with rfl <;> rfl) (show 0 + 1 ≤ 12 from Nat.le_of_ble_eq_true rfl) (show 0 + 1 ≤ 246 from Nat.le_of_ble_eq_true rfl) dX4_init_15 (fun q1 hD => ?_)
  have X := Y.x (cs := 0 + 1) (sl := 0 + 1) (show 0 + 1 ≤ 12 from Nat.le_of_ble_eq_true rfl) (show 0 + 1 ≤ 246 from Nat.le_of_ble_eq_true rfl)
  refine j_dup (pc := 18) X dX4_init_18 rfl ?_
  refine j_bipush (pc := 19) (v := nI 40) X dX4_init_19 (by decide) ?_
  refine j_newc (ms := 40) (pc := 21) (pre := [(h0, .inr (4, [.ref sa, .ref fm, .null, .null, .null, .null, .null, .null, .int 0]))]) (As := [.int (nI 40)]) (maxL := 2) Y hD (c_X3_init g.1.2.1 g.2.2.2.1 cI cS q1 40 (by decide)) eNo_ok (fun _ _ _ => trivial) gX4_init_X3_init rfl rfl rfl (by decide +kernel) (by decide +kernel) (by decide +kernel) rfl (n := 1) (by decide +kernel) ⟨Nat.le_of_ble_eq_true rfl, Nat.le_of_ble_eq_true rfl⟩ rfl (show 0 + 1 + 1 ≤ 12 from Nat.le_of_ble_eq_true rfl) (show 0 + 1 + 40 ≤ 246 from Nat.le_of_ble_eq_true rfl) (Nat.le_of_ble_eq_true rfl) rfl dX4_init_21 (fun a1 ha1 hD => ?_)
  have X := Y.x (cs := 0 + 1 + 1) (sl := 0 + 1 + 40) (show 0 + 1 + 1 ≤ 12 from Nat.le_of_ble_eq_true rfl) (show 0 + 1 + 40 ≤ 246 from Nat.le_of_ble_eq_true rfl)
  rw [← ha1]
  refine j_putF (pc := 24) (fs := [.ref sa, .ref fm, .null, .null, .null, .null, .null, .null, .int 0]) (ci := 4) (ty := .object RX3) Y hD iwi_X4_init_X4 tyX4 tyX4_ok nmX4 (q0 := 0) rfl rfl 2 (by decide) (by decide +kernel) rfl rfl (tyX4_ok 2 (by decide)) rfl rfl (Nat.le_of_ble_eq_true rfl) dX4_init_24 (fun hD => ?_)
  refine j_aload_n (pc := 27) X dX4_init_27 rfl ?_
  refine j_new (pc := 28) (fs := [.null]) (ci := 3) Y hD iwi_X4_init_X3 tyX3 tyX3_ok (by decide +kernel) (by decide +kernel) (by decide +kernel) rfl (fun j hj => by rcases (show j = 0 by omega) with rfl <;> rfl) (show 0 + 1 + 1 + 1 ≤ 12 from Nat.le_of_ble_eq_true rfl) (show 0 + 1 + 40 + 1 ≤ 246 from Nat.le_of_ble_eq_true rfl) dX4_init_28 (fun q2 hD => ?_)
  have X := Y.x (cs := 0 + 1 + 1 + 1) (sl := 0 + 1 + 40 + 1) (show 0 + 1 + 1 + 1 ≤ 12 from Nat.le_of_ble_eq_true rfl) (show 0 + 1 + 40 + 1 ≤ 246 from Nat.le_of_ble_eq_true rfl)
  refine j_dup (pc := 31) X dX4_init_31 rfl ?_
  refine j_bipush (pc := 32) (v := nI 40) X dX4_init_32 (by decide) ?_
  refine j_newc (ms := 40) (pc := 34) (pre := (h0, .inr (4, [.ref sa, .ref fm, .ref (a1 0), .null, .null, .null, .null, .null, .int 0])) :: wRow cI 40 (fun _ => 0) a1) (As := [.int (nI 40)]) (maxL := 2) Y hD (c_X3_init g.1.2.1 g.2.2.2.1 cI cS q2 40 (by decide)) eNo_ok (fun _ _ _ => trivial) gX4_init_X3_init rfl rfl rfl (by decide +kernel) (by decide +kernel) (by decide +kernel) rfl (n := 1) (by decide +kernel) ⟨Nat.le_of_ble_eq_true rfl, Nat.le_of_ble_eq_true rfl⟩ rfl (show 0 + 1 + 1 + 1 + 1 ≤ 12 from Nat.le_of_ble_eq_true rfl) (show 0 + 1 + 40 + 1 + 40 ≤ 246 from Nat.le_of_ble_eq_true rfl) (Nat.le_of_ble_eq_true rfl) rfl dX4_init_34 (fun a2 ha2 hD => ?_)
  have X := Y.x (cs := 0 + 1 + 1 + 1 + 1) (sl := 0 + 1 + 40 + 1 + 40) (show 0 + 1 + 1 + 1 + 1 ≤ 12 from Nat.le_of_ble_eq_true rfl) (show 0 + 1 + 40 + 1 + 40 ≤ 246 from Nat.le_of_ble_eq_true rfl)
  rw [← ha2]
  refine j_putF (pc := 37) (fs := [.ref sa, .ref fm, .ref (a1 0), .null, .null, .null, .null, .null, .int 0]) (ci := 4) (ty := .object RX3) Y hD iwi_X4_init_X4 tyX4 tyX4_ok nmX4 (q0 := 0) rfl rfl 3 (by decide) (by decide +kernel) rfl rfl (tyX4_ok 3 (by decide)) rfl rfl (Nat.le_of_ble_eq_true rfl) dX4_init_37 (fun hD => ?_)
  refine j_aload_n (pc := 40) X dX4_init_40 rfl ?_
  refine j_new (pc := 41) (fs := [.null]) (ci := 3) Y hD iwi_X4_init_X3 tyX3 tyX3_ok (by decide +kernel) (by decide +kernel) (by decide +kernel) rfl (fun j hj => by rcases (show j = 0 by omega) with rfl <;> rfl) (show 0 + 1 + 1 + 1 + 1 + 1 ≤ 12 from Nat.le_of_ble_eq_true rfl) (show 0 + 1 + 40 + 1 + 40 + 1 ≤ 246 from Nat.le_of_ble_eq_true rfl) dX4_init_41 (fun q3 hD => ?_)
  have X := Y.x (cs := 0 + 1 + 1 + 1 + 1 + 1) (sl := 0 + 1 + 40 + 1 + 40 + 1) (show 0 + 1 + 1 + 1 + 1 + 1 ≤ 12 from Nat.le_of_ble_eq_true rfl) (show 0 + 1 + 40 + 1 + 40 + 1 ≤ 246 from Nat.le_of_ble_eq_true rfl)
  refine j_dup (pc := 44) X dX4_init_44 rfl ?_
  refine j_bipush (pc := 45) (v := nI 40) X dX4_init_45 (by decide) ?_
  refine j_newc (ms := 40) (pc := 47) (pre := (h0, .inr (4, [.ref sa, .ref fm, .ref (a1 0), .ref (a2 0), .null, .null, .null, .null, .int 0])) :: (wRow cI 40 (fun _ => 0) a1 ++ wRow cI 40 (fun _ => 0) a2)) (As := [.int (nI 40)]) (maxL := 2) Y hD (c_X3_init g.1.2.1 g.2.2.2.1 cI cS q3 40 (by decide)) eNo_ok (fun _ _ _ => trivial) gX4_init_X3_init rfl rfl rfl (by decide +kernel) (by decide +kernel) (by decide +kernel) rfl (n := 1) (by decide +kernel) ⟨Nat.le_of_ble_eq_true rfl, Nat.le_of_ble_eq_true rfl⟩ rfl (show 0 + 1 + 1 + 1 + 1 + 1 + 1 ≤ 12 from Nat.le_of_ble_eq_true rfl) (show 0 + 1 + 40 + 1 + 40 + 1 + 40 ≤ 246 from Nat.le_of_ble_eq_true rfl) (Nat.le_of_ble_eq_true rfl) rfl dX4_init_47 (fun a3 ha3 hD => ?_)
  have X := Y.x (cs := 0 + 1 + 1 + 1 + 1 + 1 + 1) (sl := 0 + 1 + 40 + 1 + 40 + 1 + 40) (show 0 + 1 + 1 + 1 + 1 + 1 + 1 ≤ 12 from Nat.le_of_ble_eq_true rfl) (show 0 + 1 + 40 + 1 + 40 + 1 + 40 ≤ 246 from Nat.le_of_ble_eq_true rfl)
  rw [← ha3]
  refine j_putF (pc := 50) (fs := [.ref sa, .ref fm, .ref (a1 0), .ref (a2 0), .null, .null, .null, .null, .int 0]) (ci := 4) (ty := .object RX3) Y hD iwi_X4_init_X4 tyX4 tyX4_ok nmX4 (q0 := 0) rfl rfl 4 (by decide) (by decide +kernel) rfl rfl (tyX4_ok 4 (by decide)) rfl rfl (Nat.le_of_ble_eq_true rfl) dX4_init_50 (fun hD => ?_)
  refine j_aload_n (pc := 53) X dX4_init_53 rfl ?_
  refine j_new (pc := 54) (fs := [.null]) (ci := 3) Y hD iwi_X4_init_X3 tyX3 tyX3_ok (by decide +kernel) (by decide +kernel) (by decide +kernel) rfl (fun j hj => by rcases (show j = 0 by omega) with rfl <;> rfl) (show 0 + 1 + 1 + 1 + 1 + 1 + 1 + 1 ≤ 12 from Nat.le_of_ble_eq_true rfl) (show 0 + 1 + 40 + 1 + 40 + 1 + 40 + 1 ≤ 246 from Nat.le_of_ble_eq_true rfl) dX4_init_54 (fun q4 hD => ?_)
  have X := Y.x (cs := 0 + 1 + 1 + 1 + 1 + 1 + 1 + 1) (sl := 0 + 1 + 40 + 1 + 40 + 1 + 40 + 1) (show 0 + 1 + 1 + 1 + 1 + 1 + 1 + 1 ≤ 12 from Nat.le_of_ble_eq_true rfl) (show 0 + 1 + 40 + 1 + 40 + 1 + 40 + 1 ≤ 246 from Nat.le_of_ble_eq_true rfl)
  refine j_dup (pc := 57) X dX4_init_57 rfl ?_
  refine j_bipush (pc := 58) (v := nI 40) X dX4_init_58 (by decide) ?_
  refine j_newc (ms := 40) (pc := 60) (pre := (h0, .inr (4, [.ref sa, .ref fm, .ref (a1 0), .ref (a2 0), .ref (a3 0), .null, .null, .null, .int 0])) :: ((wRow cI 40 (fun _ => 0) a1 ++ wRow cI 40 (fun _ => 0) a2) ++ wRow cI 40 (fun _ => 0) a3)) (As := [.int (nI 40)]) (maxL := 2) Y hD (c_X3_init g.1.2.1 g.2.2.2.1 cI cS q4 40 (by decide)) eNo_ok (fun _ _ _ => trivial) gX4_init_X3_init rfl rfl rfl (by decide +kernel) (by decide +kernel) (by decide +kernel) rfl (n := 1) (by decide +kernel) ⟨Nat.le_of_ble_eq_true rfl, Nat.le_of_ble_eq_true rfl⟩ rfl (show 0 + 1 + 1 + 1 + 1 + 1 + 1 + 1 + 1 ≤ 12 from Nat.le_of_ble_eq_true rfl) (show 0 + 1 + 40 + 1 + 40 + 1 + 40 + 1 + 40 ≤ 246 from Nat.le_of_ble_eq_true rfl) (Nat.le_of_ble_eq_true rfl) rfl dX4_init_60 (fun a4 ha4 hD => ?_)
  have X := Y.x (cs := 0 + 1 + 1 + 1 + 1 + 1 + 1 + 1 + 1) (sl := 0 + 1 + 40 + 1 + 40 + 1 + 40 + 1 + 40) (show 0 + 1 + 1 + 1 + 1 + 1 + 1 + 1 + 1 ≤ 12 from Nat.le_of_ble_eq_true rfl) (show 0 + 1 + 40 + 1 + 40 + 1 + 40 + 1 + 40 ≤ 246 from Nat.le_of_ble_eq_true rfl)
  rw [← ha4]
  refine j_putF (pc := 63) (fs := [.ref sa, .ref fm, .ref (a1 0), .ref (a2 0), .ref (a3 0), .null, .null, .null, .int 0]) (ci := 4) (ty := .object RX3) Y hD iwi_X4_init_X4 tyX4 tyX4_ok nmX4 (q0 := 0) rfl rfl 5 (by decide) (by decide +kernel) rfl rfl (tyX4_ok 5 (by decide)) rfl rfl (Nat.le_of_ble_eq_true rfl) dX4_init_63 (fun hD => ?_)
  refine j_aload_n (pc := 66) X dX4_init_66 rfl ?_
  refine j_new (pc := 67) (fs := [.null]) (ci := 3) Y hD iwi_X4_init_X3 tyX3 tyX3_ok (by decide +kernel) (by decide +kernel) (by decide +kernel) rfl (fun j hj => by rcases (show j = 0 by omega) with rfl <;> rfl) (show 0 + 1 + 1 + 1 + 1 + 1 + 1 + 1 + 1 + 1 ≤ 12 from Nat.le_of_ble_eq_true rfl) (show 0 + 1 + 40 + 1 + 40 + 1 + 40 + 1 + 40 + 1 ≤ 246 from Nat.le_of_ble_eq_true rfl) dX4_init_67 (fun q5 hD => ?_)
  have X := Y.x (cs := 0 + 1 + 1 + 1 + 1 + 1 + 1 + 1 + 1 + 1) (sl := 0 + 1 + 40 + 1 + 40 + 1 + 40 + 1 + 40 + 1) (show 0 + 1 + 1 + 1 + 1 + 1 + 1 + 1 + 1 + 1 ≤ 12 from Nat.le_of_ble_eq_true rfl) (show 0 + 1 + 40 + 1 + 40 + 1 + 40 + 1 + 40 + 1 ≤ 246 from Nat.le_of_ble_eq_true rfl)
  refine j_dup (pc := 70) X dX4_init_70 rfl ?_
  refine j_bipush (pc := 71) (v := nI 40) X dX4_init_71 (by decide) ?_
  refine j_newc (ms := 40) (pc := 73) (pre := (h0, .inr (4, [.ref sa, .ref fm, .ref (a1 0), .ref (a2 0), .ref (a3 0), .ref (a4 0), .null, .null, .int 0])) :: (((wRow cI 40 (fun _ => 0) a1 ++ wRow cI 40 (fun _ => 0) a2) ++ wRow cI 40 (fun _ => 0) a3) ++ wRow cI 40 (fun _ => 0) a4)) (As := [.int (nI 40)]) (maxL := 2) Y hD (c_X3_init g.1.2.1 g.2.2.2.1 cI cS q5 40 (by decide)) eNo_ok (fun _ _ _ => trivial) gX4_init_X3_init rfl rfl rfl (by decide +kernel) (by decide +kernel) (by decide +kernel) rfl (n := 1) (by decide +kernel) ⟨Nat.le_of_ble_eq_true rfl, Nat.le_of_ble_eq_true rfl⟩ rfl (show 0 + 1 + 1 + 1 + 1 + 1 + 1 + 1 + 1 + 1 + 1 ≤ 12 from Nat.le_of_ble_eq_true rfl) (show 0 + 1 + 40 + 1 + 40 + 1 + 40 + 1 + 40 + 1 + 40 ≤ 246 from Nat.le_of_ble_eq_true rfl) (Nat.le_of_ble_eq_true rfl) rfl dX4_init_73 (fun a5 ha5 hD => ?_)
  have X := Y.x (cs := 0 + 1 + 1 + 1 + 1 + 1 + 1 + 1 + 1 + 1 + 1) (sl := 0 + 1 + 40 + 1 + 40 + 1 + 40 + 1 + 40 + 1 + 40) (show 0 + 1 + 1 + 1 + 1 + 1 + 1 + 1 + 1 + 1 + 1 ≤ 12 from Nat.le_of_ble_eq_true rfl) (show 0 + 1 + 40 + 1 + 40 + 1 + 40 + 1 + 40 + 1 + 40 ≤ 246 from Nat.le_of_ble_eq_true rfl)
  rw [← ha5]
  refine j_putF (pc := 76) (fs := [.ref sa, .ref fm, .ref (a1 0), .ref (a2 0), .ref (a3 0), .ref (a4 0), .null, .null, .int 0]) (ci := 4) (ty := .object RX3) Y hD iwi_X4_init_X4 tyX4 tyX4_ok nmX4 (q0 := 0) rfl rfl 6 (by decide) (by decide +kernel) rfl rfl (tyX4_ok 6 (by decide)) rfl rfl (Nat.le_of_ble_eq_true rfl) dX4_init_76 (fun hD => ?_)
  refine j_aload_n (pc := 79) X dX4_init_79 rfl ?_
  refine j_new (pc := 80) (fs := [.null]) (ci := 3) Y hD iwi_X4_init_X3 tyX3 tyX3_ok (by decide +kernel) (by decide +kernel) (by decide +kernel) rfl (fun j hj => by rcases (show j = 0 by omega) with rfl <;> rfl) (show 0 + 1 + 1 + 1 + 1 + 1 + 1 + 1 + 1 + 1 + 1 + 1 ≤ 12 from Nat.le_of_ble_eq_true rfl) (show 0 + 1 + 40 + 1 + 40 + 1 + 40 + 1 + 40 + 1 + 40 + 1 ≤ 246 from Nat.le_of_ble_eq_true rfl) dX4_init_80 (fun q6 hD => ?_)
  have X := Y.x (cs := 0 + 1 + 1 + 1 + 1 + 1 + 1 + 1 + 1 + 1 + 1 + 1) (sl := 0 + 1 + 40 + 1 + 40 + 1 + 40 + 1 + 40 + 1 + 40 + 1) (show 0 + 1 + 1 + 1 + 1 + 1 + 1 + 1 + 1 + 1 + 1 + 1 ≤ 12 from Nat.le_of_ble_eq_true rfl) (show 0 + 1 + 40 + 1 + 40 + 1 + 40 + 1 + 40 + 1 + 40 + 1 ≤ 246 from Nat.le_of_ble_eq_true rfl)
  refine j_dup (pc := 83) X dX4_init_83 rfl ?_
  refine j_bipush (pc := 84) (v := nI 40) X dX4_init_84 (by decide) ?_
  refine j_newc (ms := 40) (pc := 86) (pre := (h0, .inr (4, [.ref sa, .ref fm, .ref (a1 0), .ref (a2 0), .ref (a3 0), .ref (a4 0), .ref (a5 0), .null, .int 0])) :: ((((wRow cI 40 (fun _ => 0) a1 ++ wRow cI 40 (fun _ => 0) a2) ++ wRow cI 40 (fun _ => 0) a3) ++ wRow cI 40 (fun _ => 0) a4) ++ wRow cI 40 (fun _ => 0) a5)) (As := [.int (nI 40)]) (maxL := 2) Y hD (c_X3_init g.1.2.1 g.2.2.2.1 cI cS q6 40 (by decide)) eNo_ok (fun _ _ _ => trivial) gX4_init_X3_init rfl rfl rfl (by decide +kernel) (by decide +kernel) (by decide +kernel) rfl (n := 1) (by decide +kernel) ⟨Nat.le_of_ble_eq_true rfl, Nat.le_of_ble_eq_true rfl⟩ rfl (show 0 + 1 + 1 + 1 + 1 + 1 + 1 + 1 + 1 + 1 + 1 + 1 + 1 ≤ 12 from Nat.le_of_ble_eq_true rfl) (show 0 + 1 + 40 + 1 + 40 + 1 + 40 + 1 + 40 + 1 + 40 + 1 + 40 ≤ 246 from Nat.le_of_ble_eq_true rfl) (Nat.le_of_ble_eq_true rfl) rfl dX4_init_86 (fun a6 ha6 hD => ?_)
  have X := Y.x (cs := 0 + 1 + 1 + 1 + 1 + 1 + 1 + 1 + 1 + 1 + 1 + 1 + 1) (sl := 0 + 1 + 40 + 1 + 40 + 1 + 40 + 1 + 40 + 1 + 40 + 1 + 40) (show 0 + 1 + 1 + 1 + 1 + 1 + 1 + 1 + 1 + 1 + 1 + 1 + 1 ≤ 12 from Nat.le_of_ble_eq_true rfl) (show 0 + 1 + 40 + 1 + 40 + 1 + 40 + 1 + 40 + 1 + 40 + 1 + 40 ≤ 246 from Nat.le_of_ble_eq_true rfl)
  rw [← ha6]
  refine j_putF (pc := 89) (fs := [.ref sa, .ref fm, .ref (a1 0), .ref (a2 0), .ref (a3 0), .ref (a4 0), .ref (a5 0), .null, .int 0]) (ci := 4) (ty := .object RX3) Y hD iwi_X4_init_X4 tyX4 tyX4_ok nmX4 (q0 := 0) rfl rfl 7 (by decide) (by decide +kernel) rfl rfl (tyX4_ok 7 (by decide)) rfl rfl (Nat.le_of_ble_eq_true rfl) dX4_init_89 (fun hD => ?_)
  refine j_aload_n (pc := 92) X dX4_init_92 rfl ?_
  refine j_iconst (pc := 93) (v := 0) X dX4_init_93 (by decide) ?_
  refine j_put0 (pc := 94) (fs := [.ref sa, .ref fm, .ref (a1 0), .ref (a2 0), .ref (a3 0), .ref (a4 0), .ref (a5 0), .ref (a6 0), .int 0]) (ci := 4) Y hD (show 0 + 1 + 1 + 1 + 1 + 1 + 1 + 1 + 1 + 1 + 1 + 1 + 1 ≤ 12 from Nat.le_of_ble_eq_true rfl) (show 0 + 1 + 40 + 1 + 40 + 1 + 40 + 1 + 40 + 1 + 40 + 1 + 40 ≤ 246 from Nat.le_of_ble_eq_true rfl) iwi_X4_init_X4 tyX4 tyX4_ok nmX4 (q0 := 0) rfl rfl 8 (by decide) (by decide +kernel) rfl (tyX4_ok 8 (by decide)) (Nat.le_of_ble_eq_true rfl) dX4_init_94 (fun hD => ?_)
  exact hR 97 _ (fun i => if i = 0 then h0 else if i < 3 then a1 (i - 1) else if i < 5 then a2 (i - 3) else if i < 7 then a3 (i - 5) else if i < 9 then a4 (i - 7) else if i < 11 then a5 (i - 9) else a6 (i - 11)) _ dX4_init_97 rfl rfl hD
