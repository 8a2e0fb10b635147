/-! ===== constructors: Row, Text, Words ===== -/
def wRow (cI : ClassId) (n : Nat) (f : Nat → Int32) (ad : Nat → Nat) : va_W := [(ad 0, .inr (3, [.ref (ad 1)])), (ad 1, .inl (cI, n, .inl f))]
theorem iwi_X3_init_X3 : ∀ w ∈ u_ws RX3 TX3 1, w ∈ wsX3_init := by decide +kernel
abbrev rmi_X3 (n : Nat) : Room := { frames := 1, cells := 1, slots := n, locals := 16 }
theorem max0 {n : Nat} (hn : n < 2147483648) : (if (0 : Int32) < nI n then nI n else 0) = nI n := by
  by_cases z : n = 0
  · subst z
    rfl
  · rw [i_0, if_pos ((nI_ltI (by decide) hn).mpr (by omega))]
theorem c_X3_init (l : Launch) (D : va_G) (cI cS : ClassId) (h0 n : Nat) (hn : n ≤ 10000) : mC l yX3_init wsX3_init (rmi_X3 n) D cI cS eNo h0 (.inr (3, [.null])) [.int (nI n)] (wRow cI n (fun _ => 0)) 1 n := by
  refine mC.of (cc := cX3_init) (nL := 2) (by decide) rfl rfl (Nat.le_of_ble_eq_true rfl) rfl eNo_ok (fun g A hl1 hD1 Y hD hR => ?_)
  have X := Y.x (cs := 0) (sl := 0) (Nat.zero_le _) (Nat.zero_le _)
  refine j_aload_n (pc := 0) X dX3_init_0 rfl ?_
  refine j_objInit (pc := 1) Y (by decide +kernel) (by decide +kernel) (by decide +kernel) (Nat.le_of_ble_eq_true rfl) (Nat.le_of_ble_eq_true rfl) dX3_init_1 ?_
  refine j_aload_n (pc := 4) X dX3_init_4 rfl ?_
  refine j_iconst (pc := 5) (v := 0) X dX3_init_5 (by decide) ?_
  refine j_iload_n (pc := 6) X dX3_init_6 rfl ?_
  refine j_mmax (pc := 7) X (by decide +kernel) (by decide +kernel) (by decide +kernel) (by decide +kernel) (Nat.le_of_ble_eq_true rfl) (Nat.le_of_ble_eq_true rfl) dX3_init_7 ?_
  rw [max0 (by omega)]
  refine j_newa (pc := 10) Y hD (by decide +kernel) (nI_pos (by omega)) (nI_clamp (by omega)) hn (Nat.le_of_ble_eq_true rfl) (by show 0 + n ≤ n; omega) dX3_init_10 (fun q hD => ?_)
  refine j_putF (pc := 12) (fs := [.null]) (ci := 3) (ty := .array .int) Y hD iwi_X3_init_X3 tyX3 tyX3_ok nmX3 (q0 := 0) rfl rfl 0 (by decide) (by decide +kernel) rfl rfl (tyX3_ok 0 (by decide)) rfl rfl (by decide) dX3_init_12 (fun hD => ?_)
  have e : (0 : Nat) + n = n := Nat.zero_add n
  rw [e]
  exact hR 15 _ (fun i => if i = 0 then h0 else q) _ dX3_init_15 rfl rfl hD
/-- a text: 3 cells -/
def wTextI (cI : ClassId) (ad : Nat → Nat) : va_W := (ad 0, .inr (6, [.ref (ad 1), .int 0])) :: wRow cI 200 (fun _ => 0) (fun i => ad (i + 1))
abbrev rmi_X6 : Room := { frames := 2, cells := 2, slots := 201, locals := 40 }
theorem iwi_X6_init_X6 : ∀ w ∈ u_ws RX6 TX6 2, w ∈ wsX6_init := by decide +kernel
theorem iwi_X6_init_X3 : ∀ w ∈ u_ws RX3 TX3 1, w ∈ wsX6_init := by decide +kernel
theorem c_X6_init (l : Launch) (D : va_G) (cI cS : ClassId) (h0 : Nat) : mC l yX6_init wsX6_init rmi_X6 D cI cS eNo h0 (.inr (6, [.null, .int 0])) [] (wTextI cI) 2 201 := by
  refine mC.of (cc := cX6_init) (nL := 1) (by decide) rfl rfl (Nat.le_of_ble_eq_true rfl) rfl eNo_ok (fun g A hl1 hD1 Y hD hR => ?_)
  subst hl1
  subst hD1
  have X := Y.x (cs := 0) (sl := 0) (Nat.zero_le _) (Nat.zero_le _)
  refine j_aload_n (pc := 0) X dX6_init_0 rfl ?_
  refine j_objInit (pc := 1) Y (by decide +kernel) (by decide +kernel) (by decide +kernel) (Nat.le_of_ble_eq_true rfl) (Nat.le_of_ble_eq_true rfl) dX6_init_1 ?_
  refine j_aload_n (pc := 4) X dX6_init_4 rfl ?_
  refine j_new (pc := 5) (fs := [.null]) (ci := 3) Y hD iwi_X6_init_X3 tyX3 tyX3_ok (by decide +kernel) (by decide +kernel) (by decide +kernel) rfl (fun j hj => by rcases (show j = 0 by omega) with rfl <;> rfl) (Nat.le_of_ble_eq_true rfl) (Nat.le_of_ble_eq_true rfl) dX6_init_5 (fun q hD => ?_)
  have X := Y.x (cs := 1) (sl := 1) (Nat.le_of_ble_eq_true rfl) (Nat.le_of_ble_eq_true rfl)
  refine j_dup (pc := 8) X dX6_init_8 rfl ?_
  refine j_sipush (pc := 9) (v := nI 200) X dX6_init_9 (by decide) ?_
  refine j_newc (pc := 12) (pre := [(h0, .inr (6, [.null, .int 0]))]) (As := [.int (nI 200)]) (maxL := 2) Y hD (c_X3_init g.1.2.1 g.2.2.2.1 cI cS q 200 (by decide)) eNo_ok (fun _ _ _ => trivial) gX6_init_X3_init rfl rfl rfl (by decide +kernel) (by decide +kernel) (by decide +kernel) rfl (n := 1) (by decide +kernel) ⟨Nat.le_of_ble_eq_true rfl, Nat.le_of_ble_eq_true rfl⟩ rfl (Nat.le_of_ble_eq_true rfl) (Nat.le_of_ble_eq_true rfl) (Nat.le_of_ble_eq_true rfl) rfl dX6_init_12 (fun a1 ha1 hD => ?_)
  have X := Y.x (cs := 2) (sl := 201) (Nat.le_of_ble_eq_true rfl) (Nat.le_of_ble_eq_true rfl)
  rw [← ha1]
  refine j_putF (pc := 15) (fs := [.null, .int 0]) (ci := 6) (ty := .object RX3) Y hD iwi_X6_init_X6 tyX6 tyX6_ok nmX6 (q0 := 0) rfl rfl 0 (by decide) (by decide +kernel) rfl rfl (tyX6_ok 0 (by decide)) rfl rfl (by decide) dX6_init_15 (fun hD => ?_)
  refine j_aload_n (pc := 18) X dX6_init_18 rfl ?_
  refine j_iconst (pc := 19) (v := 0) X dX6_init_19 (by decide) ?_
  refine j_put0 (pc := 20) (fs := [.ref (a1 0), .int 0]) (ci := 6) Y hD (Nat.le_of_ble_eq_true rfl) (Nat.le_of_ble_eq_true rfl) iwi_X6_init_X6 tyX6 tyX6_ok nmX6 (q0 := 0) rfl rfl 1 (by decide) (by decide +kernel) rfl (tyX6_ok 1 (by decide)) (Nat.le_of_ble_eq_true rfl) dX6_init_20 (fun hD => ?_)
  exact hR 23 _ (fun i => if i = 0 then h0 else a1 (i - 1)) _ dX6_init_23 rfl rfl hD
/-- a list of words: 5 cells -/
def wWordsI (cI : ClassId) (mw ml : Nat) (ad : Nat → Nat) : va_W := (ad 0, .inr (7, [.int (nI mw), .int (nI ml), .ref (ad 1), .ref (ad 3), .int 0])) :: (wRow cI (mw * ml) (fun _ => 0) (fun i => ad (i + 1)) ++ wRow cI mw (fun _ => 0) (fun i => ad (i + 3)))
abbrev rmi_X7 (mw ml : Nat) : Room := { frames := 2, cells := 4, slots := 1 + mw * ml + 1 + mw, locals := 40 }
theorem iwi_X7_init_X7 : ∀ w ∈ u_ws RX7 TX7 5, w ∈ wsX7_init := by decide +kernel
theorem iwi_X7_init_X3 : ∀ w ∈ u_ws RX3 TX3 1, w ∈ wsX7_init := by decide +kernel
theorem c_X7_init (l : Launch) (D : va_G) (cI cS : ClassId) (h0 mw ml : Nat) (hm : mw ≤ 40) (hl : ml ≤ 12) : mC l yX7_init wsX7_init (rmi_X7 mw ml) D cI cS eNo h0 (.inr (7, [.int 0, .int 0, .null, .null, .int 0])) [.int (nI mw), .int (nI ml)] (wWordsI cI mw ml) 4 (1 + mw * ml + 1 + mw) := by
  have hmm := Nat.mul_le_mul hm hl
  refine mC.of (cc := cX7_init) (nL := 3) (by decide) rfl rfl (Nat.le_of_ble_eq_true rfl) rfl eNo_ok (fun g A hl1 hD1 Y hD hR => ?_)
  subst hl1
  subst hD1
  have X := Y.x (cs := 0) (sl := 0) (Nat.zero_le _) (Nat.zero_le _)
  refine j_aload_n (pc := 0) X dX7_init_0 rfl ?_
  refine j_objInit (pc := 1) Y (by decide +kernel) (by decide +kernel) (by decide +kernel) (Nat.le_of_ble_eq_true rfl) (Nat.le_of_ble_eq_true rfl) dX7_init_1 ?_
  refine j_aload_n (pc := 4) X dX7_init_4 rfl ?_
  refine j_iload_n (pc := 5) X dX7_init_5 rfl ?_
  refine j_putF (pc := 6) (fs := [.int 0, .int 0, .null, .null, .int 0]) (ci := 7) (ty := .int) Y hD iwi_X7_init_X7 tyX7 tyX7_ok nmX7 (q0 := 0) rfl rfl 0 (by decide) (by decide +kernel) rfl rfl (tyX7_ok 0 (by decide)) rfl rfl (Nat.le_of_ble_eq_true rfl) dX7_init_6 (fun hD => ?_)
  refine j_aload_n (pc := 9) X dX7_init_9 rfl ?_
  refine j_iload_n (pc := 10) X dX7_init_10 rfl ?_
  refine j_putF (pc := 11) (fs := [.int (nI mw), .int 0, .null, .null, .int 0]) (ci := 7) (ty := .int) Y hD iwi_X7_init_X7 tyX7 tyX7_ok nmX7 (q0 := 0) rfl rfl 1 (by decide) (by decide +kernel) rfl rfl (tyX7_ok 1 (by decide)) rfl rfl (Nat.le_of_ble_eq_true rfl) dX7_init_11 (fun hD => ?_)
  refine j_aload_n (pc := 14) X dX7_init_14 rfl ?_
  refine j_new (pc := 15) (fs := [.null]) (ci := 3) Y hD iwi_X7_init_X3 tyX3 tyX3_ok (by decide +kernel) (by decide +kernel) (by decide +kernel) rfl (fun j hj => by rcases (show j = 0 by omega) with rfl <;> rfl) (Nat.le_of_ble_eq_true rfl) (by show 0 + 1 ≤ 1 + mw * ml + 1 + mw; omega) dX7_init_15 (fun q hD => ?_)
  have X := Y.x (cs := 1) (sl := 1) (Nat.le_of_ble_eq_true rfl) (by show 1 ≤ 1 + mw * ml + 1 + mw; omega)
  refine j_dup (pc := 18) X dX7_init_18 rfl ?_
  refine j_iload_n (pc := 19) X dX7_init_19 rfl ?_
  refine j_iload_n (pc := 20) X dX7_init_20 rfl ?_
  refine j_imul (pc := 21) X dX7_init_21 ?_
  rw [pk_mul]
  refine j_newc (pc := 22) (pre := [(h0, .inr (7, [.int (nI mw), .int (nI ml), .null, .null, .int 0]))]) (As := [.int (nI (mw * ml))]) (maxL := 2) Y hD (c_X3_init g.1.2.1 g.2.2.2.1 cI cS q (mw * ml) (by omega)) eNo_ok (fun _ _ _ => trivial) gX7_init_X3_init rfl rfl rfl (by decide +kernel) (by decide +kernel) (by decide +kernel) rfl (n := 1) (by decide +kernel) ⟨Nat.le_of_ble_eq_true rfl, Nat.le_of_ble_eq_true rfl⟩ rfl (Nat.le_of_ble_eq_true rfl) (by show 0 + 1 + mw * ml ≤ 1 + mw * ml + 1 + mw; omega) (Nat.le_of_ble_eq_true rfl) rfl dX7_init_22 (fun a1 ha1 hD => ?_)
  have X := Y.x (cs := 0 + 1 + 1) (sl := 0 + 1 + mw * ml) (Nat.le_of_ble_eq_true rfl) (by show 0 + 1 + mw * ml ≤ 1 + mw * ml + 1 + mw; omega)
  rw [← ha1]
  refine j_putF (pc := 25) (fs := [.int (nI mw), .int (nI ml), .null, .null, .int 0]) (ci := 7) (ty := .object RX3) Y hD iwi_X7_init_X7 tyX7 tyX7_ok nmX7 (q0 := 0) rfl rfl 2 (by decide) (by decide +kernel) rfl rfl (tyX7_ok 2 (by decide)) rfl rfl (Nat.le_of_ble_eq_true rfl) dX7_init_25 (fun hD => ?_)
  refine j_aload_n (pc := 28) X dX7_init_28 rfl ?_
  refine j_new (pc := 29) (fs := [.null]) (ci := 3) Y hD iwi_X7_init_X3 tyX3 tyX3_ok (by decide +kernel) (by decide +kernel) (by decide +kernel) rfl (fun j hj => by rcases (show j = 0 by omega) with rfl <;> rfl) (Nat.le_of_ble_eq_true rfl) (by show 0 + 1 + mw * ml + 1 ≤ 1 + mw * ml + 1 + mw; omega) dX7_init_29 (fun q2 hD => ?_)
  have X := Y.x (cs := 0 + 1 + 1 + 1) (sl := 0 + 1 + mw * ml + 1) (Nat.le_of_ble_eq_true rfl) (by show 0 + 1 + mw * ml + 1 ≤ 1 + mw * ml + 1 + mw; omega)
  refine j_dup (pc := 32) X dX7_init_32 rfl ?_
  refine j_iload_n (pc := 33) X dX7_init_33 rfl ?_
  refine j_newc (pc := 34) (pre := (h0, .inr (7, [.int (nI mw), .int (nI ml), .ref (a1 0), .null, .int 0])) :: wRow cI (mw * ml) (fun _ => 0) a1) (As := [.int (nI mw)]) (maxL := 2) Y hD (c_X3_init g.1.2.1 g.2.2.2.1 cI cS q2 mw (by omega)) eNo_ok (fun _ _ _ => trivial) gX7_init_X3_init rfl rfl rfl (by decide +kernel) (by decide +kernel) (by decide +kernel) rfl (n := 1) (by decide +kernel) ⟨Nat.le_of_ble_eq_true rfl, Nat.le_of_ble_eq_true rfl⟩ rfl (Nat.le_of_ble_eq_true rfl) (by show 0 + 1 + mw * ml + 1 + mw ≤ 1 + mw * ml + 1 + mw; omega) (Nat.le_of_ble_eq_true rfl) rfl dX7_init_34 (fun a2 ha2 hD => ?_)
  have X := Y.x (cs := 0 + 1 + 1 + 1 + 1) (sl := 0 + 1 + mw * ml + 1 + mw) (Nat.le_of_ble_eq_true rfl) (by show 0 + 1 + mw * ml + 1 + mw ≤ 1 + mw * ml + 1 + mw; omega)
  rw [← ha2]
  refine j_putF (pc := 37) (fs := [.int (nI mw), .int (nI ml), .ref (a1 0), .null, .int 0]) (ci := 7) (ty := .object RX3) Y hD iwi_X7_init_X7 tyX7 tyX7_ok nmX7 (q0 := 0) rfl rfl 3 (by decide) (by decide +kernel) rfl rfl (tyX7_ok 3 (by decide)) rfl rfl (Nat.le_of_ble_eq_true rfl) dX7_init_37 (fun hD => ?_)
  refine j_aload_n (pc := 40) X dX7_init_40 rfl ?_
  refine j_iconst (pc := 41) (v := 0) X dX7_init_41 (by decide) ?_
  refine j_put0 (pc := 42) (fs := [.int (nI mw), .int (nI ml), .ref (a1 0), .ref (a2 0), .int 0]) (ci := 7) Y hD (Nat.le_of_ble_eq_true rfl) (by show 0 + 1 + mw * ml + 1 + mw ≤ 1 + mw * ml + 1 + mw; omega) iwi_X7_init_X7 tyX7 tyX7_ok nmX7 (q0 := 0) rfl rfl 4 (by decide) (by decide +kernel) rfl (tyX7_ok 4 (by decide)) (Nat.le_of_ble_eq_true rfl) dX7_init_42 (fun hD => ?_)
  have e : 0 + 1 + mw * ml + 1 + mw = 1 + mw * ml + 1 + mw := by omega
  rw [e]
  exact hR 45 _ (fun i => if i = 0 then h0 else if i < 3 then a1 (i - 1) else a2 (i - 3)) _ dX7_init_45 rfl rfl hD
