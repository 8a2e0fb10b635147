/-! ===== constructor History ===== -/
def eHi (cI : ClassId) (tw tv : Nat) : (Nat → Prop) → State → Prop := fun A U => eSt cI tw tv A U ∧ va_AO RX5 U
theorem eHi_ok (cI : ClassId) (tw tv : Nat) : eOk (eHi cI tw tv) := ⟨fun B U fr mk a h => ⟨(eSt_ok cI tw tv).1 B U fr mk a h.1, va_AO.moved (Vm.Alike.refl U.vm) h.2⟩, fun A B s U h hW hk hB => ⟨(eSt_ok cI tw tv).2 A B s U h.1 hW hk hB, va_AO.moved hW.alike h.2⟩⟩
section KHs
variable {g : kG} {cI cS : ClassId} {cc : ByteArray} {own : String} {Ts : List Cond} {nL : Nat} {rm : Room} {A : Nat → Prop} {E : (Nat → Prop) → State → Prop} {cs sl pc : Nat} {lv : List (Option Value)} {st : List Value} {ws : va_W}
theorem j_aast0 (Y : Ky g cI cS cc own Ts nL rm A E) (hD : va_D A ws) {b q0 n qk v ni : Nat} {vs : List Value} {f : Nat → Option Nat} (ha : ws[q0]? = some (b, .inl (cS, n, .inr (.inr (.inr (.inr f)))))) (hv : ws[qk]? = some (v, .inr (5, vs))) {i : Int32} (hin : vp_in i n) (hi : i.toNatClampNeg = ni) (hdg : decode cc pc = .ok (.aastore, 1)) (kk : va_D A (ws.set q0 (b, .inl (cS, n, .inr (.inr (.inr (.inr (va_up f ni (some v)))))))) → JW g cs sl nL (ws.set q0 (b, .inl (cS, n, .inr (.inr (.inr (.inr (va_up f ni (some v)))))))) (pc + 1) lv st) : JW g cs sl nL ws pc lv (.ref v :: .int i :: .ref b :: st) := fun H locs ls hP hS hl => by
  subst hi
  have X := Y.1
  have hS : va_S A g.1.2.2.2.2.heap H locs := Eq.mp (congrFun (congrFun Y.2.1 H) locs) hS
  exact va_astq X.1 X.2.1 X.2.2.2.2.2.1.1 hP hD hS q0 1 qk 5 ha rfl hv rfl hin hdg (fun H1 locs1 hP1 hD1 hS1 => kk hD1 H1 locs1 ls hP1 (Eq.mpr (congrFun (congrFun Y.2.1 H1) locs1) hS1) hl)
end KHs
def hRefs (a b c d : Nat) : Nat → Option Nat := va_up (va_up (va_up (va_up (fun _ => none) 0 (some a)) 1 (some b)) 2 (some c)) 3 (some d)
def wHistI (cI cS : ClassId) (ad : Nat → Nat) : va_W := (ad 0, .inr (2, [.ref (ad 1), .int 0])) :: ((ad 1, .inl (cS, 4, .inr (.inr (.inr (.inr (hRefs (ad 2) (ad 22) (ad 42) (ad 62))))))) :: (((wStateI cI (fun i => ad (i + 2)) ++ wStateI cI (fun i => ad (i + 22))) ++ wStateI cI (fun i => ad (i + 42))) ++ wStateI cI (fun i => ad (i + 62))))
abbrev rmi_X2 : Room := { frames := 4, cells := 81, slots := 2672, locals := 100 }
theorem iwi_X2_init_X2 : ∀ w ∈ u_ws RX2 TX2 2, w ∈ wsX2_init := by decide +kernel
theorem iwi_X2_init_X5 : ∀ w ∈ u_ws RX5 TX5 5, w ∈ wsX2_init := by decide +kernel
set_option maxHeartbeats 4000000 in
set_option maxRecDepth 100000 in
theorem c_X2_init (l : Launch) (D : va_G) (cI cS : ClassId) (h0 tw tv : Nat) : mC l yX2_init wsX2_init rmi_X2 D cI cS (eHi cI tw tv) h0 (.inr (2, [.null, .int 0])) [] (wHistI cI cS) 81 2672 := by
  refine mC.of (cc := cX2_init) (nL := 2) (by decide) rfl rfl (Nat.le_of_ble_eq_true rfl) rfl (eHi_ok cI tw tv) (fun g A hl1 hD1 Y hD hR => ?_)
  subst hl1
  subst hD1
  have hE := Y.2.2.2.2.1
  have X := Y.x (cs := 0) (sl := 0) (show 0 ≤ 81 from Nat.le_of_ble_eq_true rfl) (show 0 ≤ 2672 from Nat.le_of_ble_eq_true rfl)
  refine j_aload_n (pc := 0) X dX2_init_0 rfl ?_
  refine j_objInit (pc := 1) Y (by decide +kernel) (by decide +kernel) (by decide +kernel) (Nat.le_of_ble_eq_true rfl) (Nat.le_of_ble_eq_true rfl) dX2_init_1 ?_
  refine j_aload_n (pc := 4) X dX2_init_4 rfl ?_
  refine j_iconst (pc := 5) (v := nI 4) X dX2_init_5 (by decide) ?_
  refine j_newq (pc := 6) Y hD (by decide +kernel) hE.2 (nI_pos (by decide)) (nI_clamp (by decide)) (by decide) (show 0 + 1 ≤ 81 from Nat.le_of_ble_eq_true rfl) (show 0 + 4 ≤ 2672 from Nat.le_of_ble_eq_true rfl) dX2_init_6 (fun q0 hD => ?_)
  have X := Y.x (cs := 0 + 1) (sl := 0 + 4) (show 0 + 1 ≤ 81 from Nat.le_of_ble_eq_true rfl) (show 0 + 4 ≤ 2672 from Nat.le_of_ble_eq_true rfl)
  refine j_putF (pc := 9) (fs := [.null, .int 0]) (ci := 2) (ty := .array (.object RX5)) Y hD iwi_X2_init_X2 tyX2 tyX2_ok nmX2 (q0 := 0) rfl rfl 0 (by decide) (by decide +kernel) rfl rfl (tyX2_ok 0 (by decide)) rfl rfl (Nat.le_of_ble_eq_true rfl) dX2_init_9 (fun hD => ?_)
  refine j_iconst (pc := 12) (v := nI 0) X dX2_init_12 (by decide) ?_
  refine j_istore_n (pc := 13) X dX2_init_13 (by decide) rfl ?_
  refine j_iload_n (pc := 14) X dX2_init_14 rfl ?_
  refine j_aload_n (pc := 15) X dX2_init_15 rfl ?_
  refine j_get (pc := 16) (fs := [.ref q0, .int 0]) (ci := 2) (q0 := 0) X iwi_X2_init_X2 rfl rfl 0 (by decide) (by decide +kernel) (v := .ref q0) rfl dX2_init_16 ?_
  refine j_alen (pc := 19) (q0 := 1) (v := nI 4) X rfl 1 rfl rfl dX2_init_19 ?_
  refine j_icmp_ge (pc := 20) (tgt := 42) X dX2_init_20 (by decide) (fun h => absurd h (by decide)) (fun _ => ?_)
  refine j_aload_n (pc := 23) X dX2_init_23 rfl ?_
  refine j_get (pc := 24) (fs := [.ref q0, .int 0]) (ci := 2) (q0 := 0) X iwi_X2_init_X2 rfl rfl 0 (by decide) (by decide +kernel) (v := .ref q0) rfl dX2_init_24 ?_
  refine j_iload_n (pc := 27) X dX2_init_27 rfl ?_
  refine j_new (pc := 28) (fs := [.null, .null, .null, .null, .null]) (ci := 5) Y hD iwi_X2_init_X5 tyX5 tyX5_ok (by decide +kernel) (by decide +kernel) (by decide +kernel) rfl (fun j hj => by rcases (show j = 0 ∨ j = 1 ∨ j = 2 ∨ j = 3 ∨ j = 4 by omega) with rfl | rfl | rfl | rfl | rfl <;> rfl) (show 0 + 1 + 1 ≤ 81 from Nat.le_of_ble_eq_true rfl) (show 0 + 4 + 5 ≤ 2672 from Nat.le_of_ble_eq_true rfl) dX2_init_28 (fun q1 hD => ?_)
  have X := Y.x (cs := 0 + 1 + 1) (sl := 0 + 4 + 5) (show 0 + 1 + 1 ≤ 81 from Nat.le_of_ble_eq_true rfl) (show 0 + 4 + 5 ≤ 2672 from Nat.le_of_ble_eq_true rfl)
  refine j_dup (pc := 31) X dX2_init_31 rfl ?_
  refine j_newc (ms := 662) (pc := 32) (pre := [(h0, .inr (2, [.ref q0, .int 0])), (q0, .inl (cS, 4, .inr (.inr (.inr (.inr (fun _ => none))))))]) (As := []) (maxL := 1) Y hD (c_X5_init g.1.2.1 g.2.2.2.1 cI cS q1 tw tv) (eSt_ok cI tw tv) (fun _ _ h => h.1) gX2_init_X5_init rfl rfl rfl (by decide +kernel) (by decide +kernel) (by decide +kernel) rfl (n := 0) (by decide +kernel) ⟨Nat.le_of_ble_eq_true rfl, Nat.le_of_ble_eq_true rfl⟩ rfl (show 0 + 1 + 1 + 19 ≤ 81 from Nat.le_of_ble_eq_true rfl) (show 0 + 4 + 5 + 662 ≤ 2672 from Nat.le_of_ble_eq_true rfl) (Nat.le_of_ble_eq_true rfl) rfl dX2_init_32 (fun a1 ha1 hD => ?_)
  have X := Y.x (cs := 0 + 1 + 1 + 19) (sl := 0 + 4 + 5 + 662) (show 0 + 1 + 1 + 19 ≤ 81 from Nat.le_of_ble_eq_true rfl) (show 0 + 4 + 5 + 662 ≤ 2672 from Nat.le_of_ble_eq_true rfl)
  rw [← ha1]
  refine j_aast0 (pc := 35) (q0 := 1) (qk := 2) (ni := 0) (n := 4) Y hD rfl rfl (vp_in_nI (by decide) (by decide)) (nI_clamp (by decide)) dX2_init_35 (fun hD => ?_)
  refine j_iinc (pc := 36) (v := nI 1) X dX2_init_36 rfl (by decide) (by decide) rfl ?_
  refine j_goto (pc := 39) (tgt := 14) X dX2_init_39 (by decide) ?_
  refine j_iload_n (pc := 14) X dX2_init_14 rfl ?_
  refine j_aload_n (pc := 15) X dX2_init_15 rfl ?_
  refine j_get (pc := 16) (fs := [.ref q0, .int 0]) (ci := 2) (q0 := 0) X iwi_X2_init_X2 rfl rfl 0 (by decide) (by decide +kernel) (v := .ref q0) rfl dX2_init_16 ?_
  refine j_alen (pc := 19) (q0 := 1) (v := nI 4) X rfl 1 rfl rfl dX2_init_19 ?_
  refine j_icmp_ge (pc := 20) (tgt := 42) X dX2_init_20 (by decide) (fun h => absurd h (by decide)) (fun _ => ?_)
  refine j_aload_n (pc := 23) X dX2_init_23 rfl ?_
  refine j_get (pc := 24) (fs := [.ref q0, .int 0]) (ci := 2) (q0 := 0) X iwi_X2_init_X2 rfl rfl 0 (by decide) (by decide +kernel) (v := .ref q0) rfl dX2_init_24 ?_
  refine j_iload_n (pc := 27) X dX2_init_27 rfl ?_
  refine j_new (pc := 28) (fs := [.null, .null, .null, .null, .null]) (ci := 5) Y hD iwi_X2_init_X5 tyX5 tyX5_ok (by decide +kernel) (by decide +kernel) (by decide +kernel) rfl (fun j hj => by rcases (show j = 0 ∨ j = 1 ∨ j = 2 ∨ j = 3 ∨ j = 4 by omega) with rfl | rfl | rfl | rfl | rfl <;> rfl) (show 0 + 1 + 1 + 19 + 1 ≤ 81 from Nat.le_of_ble_eq_true rfl) (show 0 + 4 + 5 + 662 + 5 ≤ 2672 from Nat.le_of_ble_eq_true rfl) dX2_init_28 (fun q2 hD => ?_)
  have X := Y.x (cs := 0 + 1 + 1 + 19 + 1) (sl := 0 + 4 + 5 + 662 + 5) (show 0 + 1 + 1 + 19 + 1 ≤ 81 from Nat.le_of_ble_eq_true rfl) (show 0 + 4 + 5 + 662 + 5 ≤ 2672 from Nat.le_of_ble_eq_true rfl)
  refine j_dup (pc := 31) X dX2_init_31 rfl ?_
  refine j_newc (ms := 662) (pc := 32) (pre := (h0, .inr (2, [.ref q0, .int 0])) :: ((q0, .inl (cS, 4, .inr (.inr (.inr (.inr (va_up (fun _ => none) 0 (some (a1 0)))))))) :: wStateI cI a1)) (As := []) (maxL := 1) Y hD (c_X5_init g.1.2.1 g.2.2.2.1 cI cS q2 tw tv) (eSt_ok cI tw tv) (fun _ _ h => h.1) gX2_init_X5_init rfl rfl rfl (by decide +kernel) (by decide +kernel) (by decide +kernel) rfl (n := 0) (by decide +kernel) ⟨Nat.le_of_ble_eq_true rfl, Nat.le_of_ble_eq_true rfl⟩ rfl (show 0 + 1 + 1 + 19 + 1 + 19 ≤ 81 from Nat.le_of_ble_eq_true rfl) (show 0 + 4 + 5 + 662 + 5 + 662 ≤ 2672 from Nat.le_of_ble_eq_true rfl) (Nat.le_of_ble_eq_true rfl) rfl dX2_init_32 (fun a2 ha2 hD => ?_)
  have X := Y.x (cs := 0 + 1 + 1 + 19 + 1 + 19) (sl := 0 + 4 + 5 + 662 + 5 + 662) (show 0 + 1 + 1 + 19 + 1 + 19 ≤ 81 from Nat.le_of_ble_eq_true rfl) (show 0 + 4 + 5 + 662 + 5 + 662 ≤ 2672 from Nat.le_of_ble_eq_true rfl)
  rw [← ha2]
  refine j_aast0 (pc := 35) (q0 := 1) (qk := 22) (ni := 1) (n := 4) Y hD rfl rfl (vp_in_nI (by decide) (by decide)) (nI_clamp (by decide)) dX2_init_35 (fun hD => ?_)
  refine j_iinc (pc := 36) (v := nI 2) X dX2_init_36 rfl (by decide) (by decide) rfl ?_
  refine j_goto (pc := 39) (tgt := 14) X dX2_init_39 (by decide) ?_
  refine j_iload_n (pc := 14) X dX2_init_14 rfl ?_
  refine j_aload_n (pc := 15) X dX2_init_15 rfl ?_
  refine j_get (pc := 16) (fs := [.ref q0, .int 0]) (ci := 2) (q0 := 0) X iwi_X2_init_X2 rfl rfl 0 (by decide) (by decide +kernel) (v := .ref q0) rfl dX2_init_16 ?_
  refine j_alen (pc := 19) (q0 := 1) (v := nI 4) X rfl 1 rfl rfl dX2_init_19 ?_
  refine j_icmp_ge (pc := 20) (tgt := 42) X dX2_init_20 (by decide) (fun h => absurd h (by decide)) (fun _ => ?_)
  refine j_aload_n (pc := 23) X dX2_init_23 rfl ?_
  refine j_get (pc := 24) (fs := [.ref q0, .int 0]) (ci := 2) (q0 := 0) X iwi_X2_init_X2 rfl rfl 0 (by decide) (by decide +kernel) (v := .ref q0) rfl dX2_init_24 ?_
  refine j_iload_n (pc := 27) X dX2_init_27 rfl ?_
  refine j_new (pc := 28) (fs := [.null, .null, .null, .null, .null]) (ci := 5) Y hD iwi_X2_init_X5 tyX5 tyX5_ok (by decide +kernel) (by decide +kernel) (by decide +kernel) rfl (fun j hj => by rcases (show j = 0 ∨ j = 1 ∨ j = 2 ∨ j = 3 ∨ j = 4 by omega) with rfl | rfl | rfl | rfl | rfl <;> rfl) (show 0 + 1 + 1 + 19 + 1 + 19 + 1 ≤ 81 from Nat.le_of_ble_eq_true rfl) (show 0 + 4 + 5 + 662 + 5 + 662 + 5 ≤ 2672 from Nat.le_of_ble_eq_true rfl) dX2_init_28 (fun q3 hD => ?_)
  have X := Y.x (cs := 0 + 1 + 1 + 19 + 1 + 19 + 1) (sl := 0 + 4 + 5 + 662 + 5 + 662 + 5) (show 0 + 1 + 1 + 19 + 1 + 19 + 1 ≤ 81 from Nat.le_of_ble_eq_true rfl) (show 0 + 4 + 5 + 662 + 5 + 662 + 5 ≤ 2672 from Nat.le_of_ble_eq_true rfl)
  refine j_dup (pc := 31) X dX2_init_31 rfl ?_
  refine j_newc (ms := 662) (pc := 32) (pre := (h0, .inr (2, [.ref q0, .int 0])) :: ((q0, .inl (cS, 4, .inr (.inr (.inr (.inr (va_up (va_up (fun _ => none) 0 (some (a1 0))) 1 (some (a2 0)))))))) :: (wStateI cI a1 ++ wStateI cI a2))) (As := []) (maxL := 1) Y hD (c_X5_init g.1.2.1 g.2.2.2.1 cI cS q3 tw tv) (eSt_ok cI tw tv) (fun _ _ h => h.1) gX2_init_X5_init rfl rfl rfl (by decide +kernel) (by decide +kernel) (by decide +kernel) rfl (n := 0) (by decide +kernel) ⟨Nat.le_of_ble_eq_true rfl, Nat.le_of_ble_eq_true rfl⟩ rfl (show 0 + 1 + 1 + 19 + 1 + 19 + 1 + 19 ≤ 81 from Nat.le_of_ble_eq_true rfl) (show 0 + 4 + 5 + 662 + 5 + 662 + 5 + 662 ≤ 2672 from Nat.le_of_ble_eq_true rfl) (Nat.le_of_ble_eq_true rfl) rfl dX2_init_32 (fun a3 ha3 hD => ?_)
  have X := Y.x (cs := 0 + 1 + 1 + 19 + 1 + 19 + 1 + 19) (sl := 0 + 4 + 5 + 662 + 5 + 662 + 5 + 662) (show 0 + 1 + 1 + 19 + 1 + 19 + 1 + 19 ≤ 81 from Nat.le_of_ble_eq_true rfl) (show 0 + 4 + 5 + 662 + 5 + 662 + 5 + 662 ≤ 2672 from Nat.le_of_ble_eq_true rfl)
  rw [← ha3]
  refine j_aast0 (pc := 35) (q0 := 1) (qk := 42) (ni := 2) (n := 4) Y hD rfl rfl (vp_in_nI (by decide) (by decide)) (nI_clamp (by decide)) dX2_init_35 (fun hD => ?_)
  refine j_iinc (pc := 36) (v := nI 3) X dX2_init_36 rfl (by decide) (by decide) rfl ?_
  refine j_goto (pc := 39) (tgt := 14) X dX2_init_39 (by decide) ?_
  refine j_iload_n (pc := 14) X dX2_init_14 rfl ?_
  refine j_aload_n (pc := 15) X dX2_init_15 rfl ?_
  refine j_get (pc := 16) (fs := [.ref q0, .int 0]) (ci := 2) (q0 := 0) X iwi_X2_init_X2 rfl rfl 0 (by decide) (by decide +kernel) (v := .ref q0) rfl dX2_init_16 ?_
  refine j_alen (pc := 19) (q0 := 1) (v := nI 4) X rfl 1 rfl rfl dX2_init_19 ?_
  refine j_icmp_ge (pc := 20) (tgt := 42) X dX2_init_20 (by decide) (fun h => absurd h (by decide)) (fun _ => ?_)
  refine j_aload_n (pc := 23) X dX2_init_23 rfl ?_
  refine j_get (pc := 24) (fs := [.ref q0, .int 0]) (ci := 2) (q0 := 0) X iwi_X2_init_X2 rfl rfl 0 (by decide) (by decide +kernel) (v := .ref q0) rfl dX2_init_24 ?_
  refine j_iload_n (pc := 27) X dX2_init_27 rfl ?_
  refine j_new (pc := 28) (fs := [.null, .null, .null, .null, .null]) (ci := 5) Y hD iwi_X2_init_X5 tyX5 tyX5_ok (by decide +kernel) (by decide +kernel) (by decide +kernel) rfl (fun j hj => by rcases (show j = 0 ∨ j = 1 ∨ j = 2 ∨ j = 3 ∨ j = 4 by omega) with rfl | rfl | rfl | rfl | rfl <;> rfl) (show 0 + 1 + 1 + 19 + 1 + 19 + 1 + 19 + 1 ≤ 81 from Nat.le_of_ble_eq_true rfl) (show 0 + 4 + 5 + 662 + 5 + 662 + 5 + 662 + 5 ≤ 2672 from Nat.le_of_ble_eq_true rfl) dX2_init_28 (fun q4 hD => ?_)
  have X := Y.x (cs := 0 + 1 + 1 + 19 + 1 + 19 + 1 + 19 + 1) (sl := 0 + 4 + 5 + 662 + 5 + 662 + 5 + 662 + 5) (show 0 + 1 + 1 + 19 + 1 + 19 + 1 + 19 + 1 ≤ 81 from Nat.le_of_ble_eq_true rfl) (show 0 + 4 + 5 + 662 + 5 + 662 + 5 + 662 + 5 ≤ 2672 from Nat.le_of_ble_eq_true rfl)
  refine j_dup (pc := 31) X dX2_init_31 rfl ?_
  refine j_newc (ms := 662) (pc := 32) (pre := (h0, .inr (2, [.ref q0, .int 0])) :: ((q0, .inl (cS, 4, .inr (.inr (.inr (.inr (va_up (va_up (va_up (fun _ => none) 0 (some (a1 0))) 1 (some (a2 0))) 2 (some (a3 0)))))))) :: ((wStateI cI a1 ++ wStateI cI a2) ++ wStateI cI a3))) (As := []) (maxL := 1) Y hD (c_X5_init g.1.2.1 g.2.2.2.1 cI cS q4 tw tv) (eSt_ok cI tw tv) (fun _ _ h => h.1) gX2_init_X5_init rfl rfl rfl (by decide +kernel) (by decide +kernel) (by decide +kernel) rfl (n := 0) (by decide +kernel) ⟨Nat.le_of_ble_eq_true rfl, Nat.le_of_ble_eq_true rfl⟩ rfl (show 0 + 1 + 1 + 19 + 1 + 19 + 1 + 19 + 1 + 19 ≤ 81 from Nat.le_of_ble_eq_true rfl) (show 0 + 4 + 5 + 662 + 5 + 662 + 5 + 662 + 5 + 662 ≤ 2672 from Nat.le_of_ble_eq_true rfl) (Nat.le_of_ble_eq_true rfl) rfl dX2_init_32 (fun a4 ha4 hD => ?_)
  have X := Y.x (cs := 0 + 1 + 1 + 19 + 1 + 19 + 1 + 19 + 1 + 19) (sl := 0 + 4 + 5 + 662 + 5 + 662 + 5 + 662 + 5 + 662) (show 0 + 1 + 1 + 19 + 1 + 19 + 1 + 19 + 1 + 19 ≤ 81 from Nat.le_of_ble_eq_true rfl) (show 0 + 4 + 5 + 662 + 5 + 662 + 5 + 662 + 5 + 662 ≤ 2672 from Nat.le_of_ble_eq_true rfl)
  rw [← ha4]
  refine j_aast0 (pc := 35) (q0 := 1) (qk := 62) (ni := 3) (n := 4) Y hD rfl rfl (vp_in_nI (by decide) (by decide)) (nI_clamp (by decide)) dX2_init_35 (fun hD => ?_)
  refine j_iinc (pc := 36) (v := nI 4) X dX2_init_36 rfl (by decide) (by decide) rfl ?_
  refine j_goto (pc := 39) (tgt := 14) X dX2_init_39 (by decide) ?_
  refine j_iload_n (pc := 14) X dX2_init_14 rfl ?_
  refine j_aload_n (pc := 15) X dX2_init_15 rfl ?_
  refine j_get (pc := 16) (fs := [.ref q0, .int 0]) (ci := 2) (q0 := 0) X iwi_X2_init_X2 rfl rfl 0 (by decide) (by decide +kernel) (v := .ref q0) rfl dX2_init_16 ?_
  refine j_alen (pc := 19) (q0 := 1) (v := nI 4) X rfl 1 rfl rfl dX2_init_19 ?_
  refine j_icmp_ge (pc := 20) (tgt := 42) X dX2_init_20 (by decide) (fun _ => ?_) (fun h => absurd (show nI 4 ≤ nI 4 by decide) h)
  refine j_aload_n (pc := 42) X dX2_init_42 rfl ?_
  refine j_iconst (pc := 43) (v := 0) X dX2_init_43 (by decide) ?_
  refine j_put0 (pc := 44) (fs := [.ref q0, .int 0]) (ci := 2) Y hD (show 0 + 1 + 1 + 19 + 1 + 19 + 1 + 19 + 1 + 19 ≤ 81 from Nat.le_of_ble_eq_true rfl) (show 0 + 4 + 5 + 662 + 5 + 662 + 5 + 662 + 5 + 662 ≤ 2672 from Nat.le_of_ble_eq_true rfl) iwi_X2_init_X2 tyX2 tyX2_ok nmX2 (q0 := 0) rfl rfl 1 (by decide) (by decide +kernel) rfl (tyX2_ok 1 (by decide)) (Nat.le_of_ble_eq_true rfl) dX2_init_44 (fun hD => ?_)
  exact hR 47 _ (fun i => if i = 0 then h0 else if i = 1 then q0 else if i < 22 then a1 (i - 2) else if i < 42 then a2 (i - 22) else if i < 62 then a3 (i - 42) else a4 (i - 62)) _ dX2_init_47 rfl rfl hD
