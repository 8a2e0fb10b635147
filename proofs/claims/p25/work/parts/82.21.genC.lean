abbrev rm_J6_bitCount_0f7a4 : Room := { frames := 0, cells := 0, slots := 0, locals := 0 }
theorem lk_J6_bitCount_0f7a4_0 : Cond.constant RJ6 265 (1431655765) ∈ wsJ6_bitCount_0f7a4 := List.mem_of_getElem? (i := 1) rfl
theorem lk_J6_bitCount_0f7a4_1 : Cond.constant RJ6 266 (858993459) ∈ wsJ6_bitCount_0f7a4 := List.mem_of_getElem? (i := 2) rfl
theorem lk_J6_bitCount_0f7a4_2 : Cond.constant RJ6 267 (252645135) ∈ wsJ6_bitCount_0f7a4 := List.mem_of_getElem? (i := 3) rfl
theorem hd_J6_bitCount_0f7a4 : kHd yJ6_bitCount_0f7a4 1 := by decide +kernel
set_option maxHeartbeats 4000000 in
set_option maxRecDepth 100000 in
theorem t_J6_bitCount_0f7a4 {g : kG} {cI cS : ClassId} (X : Kx g cI cS cJ6_bitCount_0f7a4 RJ6 wsJ6_bitCount_0f7a4 1 rm_J6_bitCount_0f7a4) {r : Int32} (hR : kRI g kWe 1 cJ6_bitCount_0f7a4 .int kC0 r) (N : Nat) (a0 : Int32)  (hf : f_J6_bitCount_0f7a4 N a0 = some r) : J g kWe 1 kC0 0 [some (.int a0)] [] := by
  unfold f_J6_bitCount_0f7a4 at hf
  refine j_iload_n (pc := 0) X dJ6_bitCount_0f7a4_0 rfl ?_
  refine j_iload_n (pc := 1) X dJ6_bitCount_0f7a4_1 rfl ?_
  refine j_iconst (pc := 2) X dJ6_bitCount_0f7a4_2 kc_1 ?_
  refine j_iushr (pc := 3) X dJ6_bitCount_0f7a4_3 ?_
  refine j_ldcw (pc := 4) X lk_J6_bitCount_0f7a4_0 dJ6_bitCount_0f7a4_4 ?_
  refine j_iand (pc := 7) X dJ6_bitCount_0f7a4_7 ?_
  refine j_isub (pc := 8) X dJ6_bitCount_0f7a4_8 ?_
  obtain ⟨x1, ex1, hf⟩ := jn_s hf
  refine j_istore_n (pc := 9) X dJ6_bitCount_0f7a4_9 (Nat.le_of_ble_eq_true rfl) (lv' := [some (.int x1)]) (by rw [ex1]; rfl) ?_
  refine j_iload_n (pc := 10) X dJ6_bitCount_0f7a4_10 rfl ?_
  refine j_ldcw (pc := 11) X lk_J6_bitCount_0f7a4_1 dJ6_bitCount_0f7a4_11 ?_
  refine j_iand (pc := 14) X dJ6_bitCount_0f7a4_14 ?_
  refine j_iload_n (pc := 15) X dJ6_bitCount_0f7a4_15 rfl ?_
  refine j_iconst (pc := 16) X dJ6_bitCount_0f7a4_16 kc_2 ?_
  refine j_iushr (pc := 17) X dJ6_bitCount_0f7a4_17 ?_
  refine j_ldcw (pc := 18) X lk_J6_bitCount_0f7a4_1 dJ6_bitCount_0f7a4_18 ?_
  refine j_iand (pc := 21) X dJ6_bitCount_0f7a4_21 ?_
  refine j_iadd (pc := 22) X dJ6_bitCount_0f7a4_22 ?_
  obtain ⟨x2, ex2, hf⟩ := jn_s hf
  refine j_istore_n (pc := 23) X dJ6_bitCount_0f7a4_23 (Nat.le_of_ble_eq_true rfl) (lv' := [some (.int x2)]) (by rw [ex2]; rfl) ?_
  refine j_iload_n (pc := 24) X dJ6_bitCount_0f7a4_24 rfl ?_
  refine j_iload_n (pc := 25) X dJ6_bitCount_0f7a4_25 rfl ?_
  refine j_iconst (pc := 26) X dJ6_bitCount_0f7a4_26 kc_4 ?_
  refine j_iushr (pc := 27) X dJ6_bitCount_0f7a4_27 ?_
  refine j_iadd (pc := 28) X dJ6_bitCount_0f7a4_28 ?_
  refine j_ldcw (pc := 29) X lk_J6_bitCount_0f7a4_2 dJ6_bitCount_0f7a4_29 ?_
  refine j_iand (pc := 32) X dJ6_bitCount_0f7a4_32 ?_
  obtain ⟨x3, ex3, hf⟩ := jn_s hf
  refine j_istore_n (pc := 33) X dJ6_bitCount_0f7a4_33 (Nat.le_of_ble_eq_true rfl) (lv' := [some (.int x3)]) (by rw [ex3]; rfl) ?_
  refine j_iload_n (pc := 34) X dJ6_bitCount_0f7a4_34 rfl ?_
  refine j_iload_n (pc := 35) X dJ6_bitCount_0f7a4_35 rfl ?_
  refine j_bipush (pc := 36) X dJ6_bitCount_0f7a4_36 kb_8 ?_
  refine j_iushr (pc := 38) X dJ6_bitCount_0f7a4_38 ?_
  refine j_iadd (pc := 39) X dJ6_bitCount_0f7a4_39 ?_
  obtain ⟨x4, ex4, hf⟩ := jn_s hf
  refine j_istore_n (pc := 40) X dJ6_bitCount_0f7a4_40 (Nat.le_of_ble_eq_true rfl) (lv' := [some (.int x4)]) (by rw [ex4]; rfl) ?_
  refine j_iload_n (pc := 41) X dJ6_bitCount_0f7a4_41 rfl ?_
  refine j_iload_n (pc := 42) X dJ6_bitCount_0f7a4_42 rfl ?_
  refine j_bipush (pc := 43) X dJ6_bitCount_0f7a4_43 kb_16 ?_
  refine j_iushr (pc := 45) X dJ6_bitCount_0f7a4_45 ?_
  refine j_iadd (pc := 46) X dJ6_bitCount_0f7a4_46 ?_
  obtain ⟨x5, ex5, hf⟩ := jn_s hf
  refine j_istore_n (pc := 47) X dJ6_bitCount_0f7a4_47 (Nat.le_of_ble_eq_true rfl) (lv' := [some (.int x5)]) (by rw [ex5]; rfl) ?_
  refine j_iload_n (pc := 48) X dJ6_bitCount_0f7a4_48 rfl ?_
  refine j_bipush (pc := 49) X dJ6_bitCount_0f7a4_49 kb_63 ?_
  refine j_iand (pc := 51) X dJ6_bitCount_0f7a4_51 ?_
  exact j_retI hR dJ6_bitCount_0f7a4_52 hf
theorem c_J6_bitCount_0f7a4 {l : Launch} {D : va_G} {cI cS : ClassId}  (N : Nat) (a0 : Int32) {r : Int32} (hf : f_J6_bitCount_0f7a4 N a0 = some r) : mP l yJ6_bitCount_0f7a4 wsJ6_bitCount_0f7a4 rm_J6_bitCount_0f7a4 D cI cS [.int a0] r :=
  mP.of (by decide) rfl rfl (Nat.le_of_ble_eq_true rfl) (fun g X hR => t_J6_bitCount_0f7a4 X  hR N a0  hf)
abbrev rm_X3_at : Room := { frames := 0, cells := 0, slots := 0, locals := 0 }
theorem lk_X3_at_0 : Cond.fieldLink RX3 13 "BlackBars$Row" "cells" "[I" ∈ wsX3_at := List.mem_of_getElem? (i := 1) rfl
theorem iw_X3_at_X3 : ∀ w ∈ wsX30, w ∈ wsX3_at := fun _ h => List.mem_cons_of_mem _ (List.mem_append_right _ h)
theorem hd_X3_at : kHd yX3_at 1 := by decide +kernel
set_option maxHeartbeats 4000000 in
set_option maxRecDepth 100000 in
theorem t_X3_at {g : kG} {cI cS : ClassId} {ad : Nat → Nat} {C : kS} (X : Kx g cI cS cX3_at RX3 wsX3_at 2 rm_X3_at) {r : Int32} (hR : kRI g (WC cI cS ad) 2 cX3_at .int C r) (N : Nat) (k : Nat) (a1 : Int32) (hk : kd k = 3) (hf : f_X3_at N C k a1 = some r) : J g (WC cI cS ad) 2 C 0 [some (.ref (ad k)), some (.int a1)] [] := by
  unfold f_X3_at at hf
  refine j_iload_n (pc := 0) X dX3_at_0 rfl ?_
  obtain ⟨j23_1, ej23_1, hf⟩ := jn_s hf
  have hj23_1 : ∀ (t1 : Int32), j23_1 t1 = some r → J g (WC cI cS ad) 2 C 23 [some (.ref (ad k)), some (.int a1)] [.int t1] := by
    intro t1 hf
    have hf := jE1 ej23_1 hf
    exact j_retI hR dX3_at_23 hf
  refine j_if_lt (tgt := 22) (pc := 1) X dX3_at_1 rfl (fun c3 => ?_) (fun c3 => ?_)
  · have hf := kT c3 hf
    refine j_iconst (pc := 22) X dX3_at_22 kc_0 ?_
    exact hj23_1 _ hf
  · have hf := kF c3 hf
    refine j_iload_n (pc := 4) X dX3_at_4 rfl ?_
    refine j_aload_n (pc := 5) X dX3_at_5 rfl ?_
    refine j_get (pc := 6) X iw_X3_at_X3 (wc3 hk) rfl 0 (Nat.le_of_ble_eq_true rfl) lk_X3_at_0 (v := .ref (ad (k + 1))) rfl dX3_at_6 ?_
    refine j_alen (pc := 9) X (wcA (kd3_1 hk)) 0 rfl (v := nI (ln (k + 1))) rfl dX3_at_9 ?_
    refine j_icmp_ge (tgt := 22) (pc := 10) X dX3_at_10 rfl (fun c4 => ?_) (fun c4 => ?_)
    · have hf := kT c4 hf
      refine j_iconst (pc := 22) X dX3_at_22 kc_0 ?_
      exact hj23_1 _ hf
    · have hf := kF c4 hf
      refine j_aload_n (pc := 13) X dX3_at_13 rfl ?_
      refine j_get (pc := 14) X iw_X3_at_X3 (wc3 hk) rfl 0 (Nat.le_of_ble_eq_true rfl) lk_X3_at_0 (v := .ref (ad (k + 1))) rfl dX3_at_14 ?_
      refine j_iload_n (pc := 17) X dX3_at_17 rfl ?_
      obtain ⟨b5, hf⟩ := gIn_s hf
      refine j_iald (pc := 18) X (wcA (kd3_1 hk)) b5 dX3_at_18 ?_
      refine j_goto (tgt := 23) (pc := 19) X dX3_at_19 rfl ?_
      exact hj23_1 _ hf
theorem c_X3_at {l : Launch} {D : va_G} {cI cS : ClassId} {ad : Nat → Nat} (N : Nat) (C : kS) (k : Nat) (hk : kd k = 3) (a1 : Int32) {r : Int32} (hf : f_X3_at N C k a1 = some r) : mI l yX3_at wsX3_at rm_X3_at D cI cS (WC cI cS ad) C [.ref (ad k), .int a1] r :=
  mI.of (by decide) rfl rfl (Nat.le_of_ble_eq_true rfl) (fun g X hR => t_X3_at X  hR N k a1 hk hf)
abbrev rm_X1_widthOf : Room := { frames := 1, cells := 0, slots := 0, locals := 21 }
theorem lk_X1_widthOf_0 : Cond.fieldLink RX1 14 "BlackBars$Forms" "widths" "LBlackBars$Row;" ∈ wsX1_widthOf := List.mem_of_getElem? (i := 1) rfl
theorem iw_X1_widthOf_X1 : ∀ w ∈ wsX10, w ∈ wsX1_widthOf := fun _ h => List.mem_cons_of_mem _ (List.mem_append_left _ (List.mem_append_right _ h))
theorem hd_X1_widthOf : kHd yX1_widthOf 1 := by decide +kernel
set_option maxHeartbeats 4000000 in
set_option maxRecDepth 100000 in
theorem t_X1_widthOf {g : kG} {cI cS : ClassId} {ad : Nat → Nat} {C : kS} (X : Kx g cI cS cX1_widthOf RX1 wsX1_widthOf 2 rm_X1_widthOf) {r : Int32} (hR : kRI g (WC cI cS ad) 2 cX1_widthOf .int C r) (N : Nat) (a1 : Int32)  (hf : f_X1_widthOf N C a1 = some r) : J g (WC cI cS ad) 2 C 0 [some (.ref (ad 106)), some (.int a1)] [] := by
  unfold f_X1_widthOf at hf
  refine j_aload_n (pc := 0) X dX1_widthOf_0 rfl ?_
  refine j_get (pc := 1) X iw_X1_widthOf_X1 (wc1 kd_106) rfl 0 (Nat.le_of_ble_eq_true rfl) lk_X1_widthOf_0 (v := .ref (ad 107)) rfl dX1_widthOf_1 ?_
  refine j_iload_n (pc := 4) X dX1_widthOf_4 rfl ?_
  obtain ⟨r2, h1, hf⟩ := kB hf
  refine j_callI (pc := 5) X (c_X3_at N C 107 kd_107 a1 h1) gX1_widthOf_X3_at rfl ⟨rfl, rfl⟩ rfl hd_X3_at ⟨(Nat.le_of_ble_eq_true rfl), (Nat.le_of_ble_eq_true rfl)⟩ (wc3 kd_107) rfl rfl rfl (Nat.le_of_ble_eq_true rfl) rfl dX1_widthOf_5 ?_
  exact j_retI hR dX1_widthOf_8 hf
theorem c_X1_widthOf {l : Launch} {D : va_G} {cI cS : ClassId} {ad : Nat → Nat} (N : Nat) (C : kS) (a1 : Int32) {r : Int32} (hf : f_X1_widthOf N C a1 = some r) : mI l yX1_widthOf wsX1_widthOf rm_X1_widthOf D cI cS (WC cI cS ad) C [.ref (ad 106), .int a1] r :=
  mI.of (by decide) rfl rfl (Nat.le_of_ble_eq_true rfl) (fun g X hR => t_X1_widthOf X  hR N a1  hf)
abbrev rm_X0_upToMultiple : Room := { frames := 0, cells := 0, slots := 0, locals := 0 }
theorem hd_X0_upToMultiple : kHd yX0_upToMultiple 2 := by decide +kernel
set_option maxHeartbeats 4000000 in
set_option maxRecDepth 100000 in
theorem t_X0_upToMultiple {g : kG} {cI cS : ClassId} (X : Kx g cI cS cX0_upToMultiple RX0 wsX0_upToMultiple 2 rm_X0_upToMultiple) {r : Int32} (hR : kRI g kWe 2 cX0_upToMultiple .int kC0 r) (N : Nat) (a0 : Int32) (a1 : Int32)  (hf : f_X0_upToMultiple N a0 a1 = some r) : J g kWe 2 kC0 0 [some (.int a0), some (.int a1)] [] := by
  unfold f_X0_upToMultiple at hf
  refine j_iload_n (pc := 0) X dX0_upToMultiple_0 rfl ?_
  refine j_iconst (pc := 1) X dX0_upToMultiple_1 kc_1 ?_
  obtain ⟨j18_1, ej18_1, hf⟩ := jn_s hf
  have hj18_1 : ∀ (t1 : Int32), j18_1 t1 = some r → J g kWe 2 kC0 18 [some (.int a0), some (.int a1)] [.int t1] := by
    intro t1 hf
    have hf := jE1 ej18_1 hf
    exact j_retI hR dX0_upToMultiple_18 hf
  refine j_icmp_ge (tgt := 9) (pc := 2) X dX0_upToMultiple_2 rfl (fun c3 => ?_) (fun c3 => ?_)
  · have hf := kT c3 hf
    refine j_iload_n (pc := 9) X dX0_upToMultiple_9 rfl ?_
    refine j_iload_n (pc := 10) X dX0_upToMultiple_10 rfl ?_
    refine j_iadd (pc := 11) X dX0_upToMultiple_11 ?_
    refine j_iconst (pc := 12) X dX0_upToMultiple_12 kc_1 ?_
    refine j_isub (pc := 13) X dX0_upToMultiple_13 ?_
    refine j_iload_n (pc := 14) X dX0_upToMultiple_14 rfl ?_
    obtain ⟨z4, hf⟩ := gNz_s hf
    refine j_idiv (pc := 15) X dX0_upToMultiple_15 z4 ?_
    refine j_iload_n (pc := 16) X dX0_upToMultiple_16 rfl ?_
    refine j_imul (pc := 17) X dX0_upToMultiple_17 ?_
    exact hj18_1 _ hf
  · have hf := kF c3 hf
    refine j_iload_n (pc := 5) X dX0_upToMultiple_5 rfl ?_
    refine j_goto (tgt := 18) (pc := 6) X dX0_upToMultiple_6 rfl ?_
    exact hj18_1 _ hf
theorem c_X0_upToMultiple {l : Launch} {D : va_G} {cI cS : ClassId}  (N : Nat) (a0 : Int32) (a1 : Int32) {r : Int32} (hf : f_X0_upToMultiple N a0 a1 = some r) : mP l yX0_upToMultiple wsX0_upToMultiple rm_X0_upToMultiple D cI cS [.int a0, .int a1] r :=
  mP.of (by decide) rfl rfl (Nat.le_of_ble_eq_true rfl) (fun g X hR => t_X0_upToMultiple X  hR N a0 a1  hf)
abbrev rm_X1_rankOf : Room := { frames := 1, cells := 0, slots := 0, locals := 21 }
theorem lk_X1_rankOf_0 : Cond.fieldLink RX1 20 "BlackBars$Forms" "ranks" "LBlackBars$Row;" ∈ wsX1_rankOf := List.mem_of_getElem? (i := 1) rfl
theorem iw_X1_rankOf_X1 : ∀ w ∈ wsX10, w ∈ wsX1_rankOf := fun _ h => List.mem_cons_of_mem _ (List.mem_append_left _ (List.mem_append_right _ h))
theorem hd_X1_rankOf : kHd yX1_rankOf 1 := by decide +kernel
set_option maxHeartbeats 4000000 in
set_option maxRecDepth 100000 in
theorem t_X1_rankOf {g : kG} {cI cS : ClassId} {ad : Nat → Nat} {C : kS} (X : Kx g cI cS cX1_rankOf RX1 wsX1_rankOf 2 rm_X1_rankOf) {r : Int32} (hR : kRI g (WC cI cS ad) 2 cX1_rankOf .int C r) (N : Nat) (a1 : Int32)  (hf : f_X1_rankOf N C a1 = some r) : J g (WC cI cS ad) 2 C 0 [some (.ref (ad 106)), some (.int a1)] [] := by
  unfold f_X1_rankOf at hf
  refine j_aload_n (pc := 0) X dX1_rankOf_0 rfl ?_
  refine j_get (pc := 1) X iw_X1_rankOf_X1 (wc1 kd_106) rfl 1 (Nat.le_of_ble_eq_true rfl) lk_X1_rankOf_0 (v := .ref (ad 109)) rfl dX1_rankOf_1 ?_
  refine j_iload_n (pc := 4) X dX1_rankOf_4 rfl ?_
  obtain ⟨r2, h1, hf⟩ := kB hf
  refine j_callI (pc := 5) X (c_X3_at N C 109 kd_109 a1 h1) gX1_rankOf_X3_at rfl ⟨rfl, rfl⟩ rfl hd_X3_at ⟨(Nat.le_of_ble_eq_true rfl), (Nat.le_of_ble_eq_true rfl)⟩ (wc3 kd_109) rfl rfl rfl (Nat.le_of_ble_eq_true rfl) rfl dX1_rankOf_5 ?_
  exact j_retI hR dX1_rankOf_8 hf
theorem c_X1_rankOf {l : Launch} {D : va_G} {cI cS : ClassId} {ad : Nat → Nat} (N : Nat) (C : kS) (a1 : Int32) {r : Int32} (hf : f_X1_rankOf N C a1 = some r) : mI l yX1_rankOf wsX1_rankOf rm_X1_rankOf D cI cS (WC cI cS ad) C [.ref (ad 106), .int a1] r :=
  mI.of (by decide) rfl rfl (Nat.le_of_ble_eq_true rfl) (fun g X hR => t_X1_rankOf X  hR N a1  hf)
abbrev rm_X1_size : Room := { frames := 0, cells := 0, slots := 0, locals := 0 }
theorem lk_X1_size_0 : Cond.fieldLink RX1 30 "BlackBars$Forms" "size" "I" ∈ wsX1_size := List.mem_of_getElem? (i := 1) rfl
theorem iw_X1_size_X1 : ∀ w ∈ wsX10, w ∈ wsX1_size := fun _ h => List.mem_cons_of_mem _ (List.mem_append_right _ h)
theorem hd_X1_size : kHd yX1_size 0 := by decide +kernel
set_option maxHeartbeats 4000000 in
set_option maxRecDepth 100000 in
theorem t_X1_size {g : kG} {cI cS : ClassId} {ad : Nat → Nat} {C : kS} (X : Kx g cI cS cX1_size RX1 wsX1_size 1 rm_X1_size) {r : Int32} (hR : kRI g (WC cI cS ad) 1 cX1_size .int C r) (N : Nat)   (hf : f_X1_size N C = some r) : J g (WC cI cS ad) 1 C 0 [some (.ref (ad 106))] [] := by
  unfold f_X1_size at hf
  refine j_aload_n (pc := 0) X dX1_size_0 rfl ?_
  refine j_get (pc := 1) X iw_X1_size_X1 (wc1 kd_106) rfl 4 (Nat.le_of_ble_eq_true rfl) lk_X1_size_0 (v := .int (C 106 4)) rfl dX1_size_1 ?_
  exact j_retI hR dX1_size_4 hf
theorem c_X1_size {l : Launch} {D : va_G} {cI cS : ClassId} {ad : Nat → Nat} (N : Nat) (C : kS)  {r : Int32} (hf : f_X1_size N C = some r) : mI l yX1_size wsX1_size rm_X1_size D cI cS (WC cI cS ad) C [.ref (ad 106)] r :=
  mI.of (by decide) rfl rfl (Nat.le_of_ble_eq_true rfl) (fun g X hR => t_X1_size X  hR N   hf)
abbrev rm_X0_lastRankOfGroup : Room := { frames := 1, cells := 0, slots := 0, locals := 20 }
theorem lk_X0_lastRankOfGroup_0 : Cond.fieldLink RX0 9 "BlackBars$Bars" "forms" "LBlackBars$Forms;" ∈ wsX0_lastRankOfGroup := List.mem_of_getElem? (i := 1) rfl
theorem iw_X0_lastRankOfGroup_X0 : ∀ w ∈ wsX00, w ∈ wsX0_lastRankOfGroup := fun _ h => List.mem_cons_of_mem _ (List.mem_append_left _ (List.mem_append_right _ h))
theorem hd_X0_lastRankOfGroup : kHd yX0_lastRankOfGroup 2 := by decide +kernel
set_option maxHeartbeats 4000000 in
set_option maxRecDepth 100000 in
theorem t_X0_lastRankOfGroup {g : kG} {cI cS : ClassId} {ad : Nat → Nat} {C : kS} (X : Kx g cI cS cX0_lastRankOfGroup RX0 wsX0_lastRankOfGroup 5 rm_X0_lastRankOfGroup) {r : Int32} (hR : kRI g (WC cI cS ad) 5 cX0_lastRankOfGroup .int C r) (N : Nat) (k : Nat) (a1 : Int32) (a2 : Int32) (hk : kd k = 0) (hf : f_X0_lastRankOfGroup N C k a1 a2 = some r) : J g (WC cI cS ad) 5 C 0 [some (.ref (ad k)), some (.int a1), some (.int a2), none, none] [] := by
  unfold f_X0_lastRankOfGroup at hf
  refine j_iload_n (pc := 0) X dX0_lastRankOfGroup_0 rfl ?_
  refine j_iconst (pc := 1) X dX0_lastRankOfGroup_1 kc_1 ?_
  refine j_icmp_ge (tgt := 7) (pc := 2) X dX0_lastRankOfGroup_2 rfl (fun c1 => ?_) (fun c1 => ?_)
  · have hf := kT c1 hf
    refine j_iload_n (pc := 7) X dX0_lastRankOfGroup_7 rfl ?_
    refine j_iload_n (pc := 8) X dX0_lastRankOfGroup_8 rfl ?_
    obtain ⟨z2, hf⟩ := gNz_s hf
    refine j_idiv (pc := 9) X dX0_lastRankOfGroup_9 z2 ?_
    refine j_iload_n (pc := 10) X dX0_lastRankOfGroup_10 rfl ?_
    refine j_imul (pc := 11) X dX0_lastRankOfGroup_11 ?_
    refine j_iload_n (pc := 12) X dX0_lastRankOfGroup_12 rfl ?_
    refine j_iadd (pc := 13) X dX0_lastRankOfGroup_13 ?_
    refine j_iconst (pc := 14) X dX0_lastRankOfGroup_14 kc_1 ?_
    refine j_isub (pc := 15) X dX0_lastRankOfGroup_15 ?_
    refine j_istore_n (pc := 16) X dX0_lastRankOfGroup_16 (Nat.le_of_ble_eq_true rfl) (lv' := [some (.ref (ad k)), some (.int a1), some (.int a2), some (.int ((((a1 / a2) * a2) + a2) - 1)), none]) rfl ?_
    refine j_iload_n (pc := 17) X dX0_lastRankOfGroup_17 rfl ?_
    refine j_iload_n (pc := 18) X dX0_lastRankOfGroup_18 rfl ?_
    refine j_iadd (pc := 19) X dX0_lastRankOfGroup_19 ?_
    refine j_aload_n (pc := 20) X dX0_lastRankOfGroup_20 rfl ?_
    refine j_get (pc := 21) X iw_X0_lastRankOfGroup_X0 (wc0 hk) rfl 0 (Nat.le_of_ble_eq_true rfl) lk_X0_lastRankOfGroup_0 (v := .ref (ad 106)) rfl dX0_lastRankOfGroup_21 ?_
    obtain ⟨r4, h3, hf⟩ := kB hf
    refine j_callI (pc := 24) X (c_X1_size N C  h3) gX0_lastRankOfGroup_X1_size rfl ⟨rfl, rfl⟩ rfl hd_X1_size ⟨(Nat.le_of_ble_eq_true rfl), (Nat.le_of_ble_eq_true rfl)⟩ (wc1 kd_106) rfl rfl rfl (Nat.le_of_ble_eq_true rfl) rfl dX0_lastRankOfGroup_24 ?_
    obtain ⟨j35_5, ej35_5, hf⟩ := jn_s hf
    have hj35_5 : ∀ (t5 : Int32), j35_5 t5 = some r → J g (WC cI cS ad) 5 C 35 [some (.ref (ad k)), some (.int a1), some (.int a2), some (.int ((((a1 / a2) * a2) + a2) - 1)), none] [.int t5] := by
      intro t5 hf
      have hf := jE1 ej35_5 hf
      refine j_istore (pc := 35) X dX0_lastRankOfGroup_35 (Nat.le_of_ble_eq_true rfl) (lv' := [some (.ref (ad k)), some (.int a1), some (.int a2), some (.int ((((a1 / a2) * a2) + a2) - 1)), some (.int t5)]) rfl ?_
      refine j_iload (pc := 37) X dX0_lastRankOfGroup_37 rfl ?_
      obtain ⟨j55_7, ej55_7, hf⟩ := jn_s hf
      have hj55_7 : ∀ (t7 : Int32), j55_7 t7 = some r → J g (WC cI cS ad) 5 C 55 [some (.ref (ad k)), some (.int a1), some (.int a2), some (.int ((((a1 / a2) * a2) + a2) - 1)), some (.int t5)] [.int t7] := by
        intro t7 hf
        have hf := jE1 ej55_7 hf
        exact j_retI hR dX0_lastRankOfGroup_55 hf
      refine j_if_eq (tgt := 46) (pc := 39) X dX0_lastRankOfGroup_39 rfl (fun c9 => ?_) (fun c9 => ?_)
      · have hf := kT c9 hf
        refine j_aload_n (pc := 46) X dX0_lastRankOfGroup_46 rfl ?_
        refine j_get (pc := 47) X iw_X0_lastRankOfGroup_X0 (wc0 hk) rfl 0 (Nat.le_of_ble_eq_true rfl) lk_X0_lastRankOfGroup_0 (v := .ref (ad 106)) rfl dX0_lastRankOfGroup_47 ?_
        obtain ⟨r11, h10, hf⟩ := kB hf
        refine j_callI (pc := 50) X (c_X1_size N C  h10) gX0_lastRankOfGroup_X1_size rfl ⟨rfl, rfl⟩ rfl hd_X1_size ⟨(Nat.le_of_ble_eq_true rfl), (Nat.le_of_ble_eq_true rfl)⟩ (wc1 kd_106) rfl rfl rfl (Nat.le_of_ble_eq_true rfl) rfl dX0_lastRankOfGroup_50 ?_
        refine j_iconst (pc := 53) X dX0_lastRankOfGroup_53 kc_1 ?_
        refine j_isub (pc := 54) X dX0_lastRankOfGroup_54 ?_
        exact hj55_7 _ hf
      · have hf := kF c9 hf
        refine j_iload_n (pc := 42) X dX0_lastRankOfGroup_42 rfl ?_
        refine j_goto (tgt := 55) (pc := 43) X dX0_lastRankOfGroup_43 rfl ?_
        exact hj55_7 _ hf
    refine j_icmp_ge (tgt := 34) (pc := 27) X dX0_lastRankOfGroup_27 rfl (fun c12 => ?_) (fun c12 => ?_)
    · have hf := kT c12 hf
      refine j_iconst (pc := 34) X dX0_lastRankOfGroup_34 kc_0 ?_
      exact hj35_5 _ hf
    · have hf := kF c12 hf
      refine j_iconst (pc := 30) X dX0_lastRankOfGroup_30 kc_1 ?_
      refine j_goto (tgt := 35) (pc := 31) X dX0_lastRankOfGroup_31 rfl ?_
      exact hj35_5 _ hf
  · have hf := kF c1 hf
    refine j_iload_n (pc := 5) X dX0_lastRankOfGroup_5 rfl ?_
    exact j_retI hR dX0_lastRankOfGroup_6 hf
theorem c_X0_lastRankOfGroup {l : Launch} {D : va_G} {cI cS : ClassId} {ad : Nat → Nat} (N : Nat) (C : kS) (k : Nat) (hk : kd k = 0) (a1 : Int32) (a2 : Int32) {r : Int32} (hf : f_X0_lastRankOfGroup N C k a1 a2 = some r) : mI l yX0_lastRankOfGroup wsX0_lastRankOfGroup rm_X0_lastRankOfGroup D cI cS (WC cI cS ad) C [.ref (ad k), .int a1, .int a2] r :=
  mI.of (by decide) rfl rfl (Nat.le_of_ble_eq_true rfl) (fun g X hR => t_X0_lastRankOfGroup X  hR N k a1 a2 hk hf)
abbrev rm_X1_widthAtRank : Room := { frames := 1, cells := 0, slots := 0, locals := 21 }
theorem lk_X1_widthAtRank_0 : Cond.fieldLink RX1 23 "BlackBars$Forms" "sortedWidths" "LBlackBars$Row;" ∈ wsX1_widthAtRank := List.mem_of_getElem? (i := 1) rfl
theorem iw_X1_widthAtRank_X1 : ∀ w ∈ wsX10, w ∈ wsX1_widthAtRank := fun _ h => List.mem_cons_of_mem _ (List.mem_append_left _ (List.mem_append_right _ h))
theorem hd_X1_widthAtRank : kHd yX1_widthAtRank 1 := by decide +kernel
set_option maxHeartbeats 4000000 in
set_option maxRecDepth 100000 in
theorem t_X1_widthAtRank {g : kG} {cI cS : ClassId} {ad : Nat → Nat} {C : kS} (X : Kx g cI cS cX1_widthAtRank RX1 wsX1_widthAtRank 2 rm_X1_widthAtRank) {r : Int32} (hR : kRI g (WC cI cS ad) 2 cX1_widthAtRank .int C r) (N : Nat) (a1 : Int32)  (hf : f_X1_widthAtRank N C a1 = some r) : J g (WC cI cS ad) 2 C 0 [some (.ref (ad 106)), some (.int a1)] [] := by
  unfold f_X1_widthAtRank at hf
  refine j_aload_n (pc := 0) X dX1_widthAtRank_0 rfl ?_
  refine j_get (pc := 1) X iw_X1_widthAtRank_X1 (wc1 kd_106) rfl 2 (Nat.le_of_ble_eq_true rfl) lk_X1_widthAtRank_0 (v := .ref (ad 111)) rfl dX1_widthAtRank_1 ?_
  refine j_iload_n (pc := 4) X dX1_widthAtRank_4 rfl ?_
  obtain ⟨r2, h1, hf⟩ := kB hf
  refine j_callI (pc := 5) X (c_X3_at N C 111 kd_111 a1 h1) gX1_widthAtRank_X3_at rfl ⟨rfl, rfl⟩ rfl hd_X3_at ⟨(Nat.le_of_ble_eq_true rfl), (Nat.le_of_ble_eq_true rfl)⟩ (wc3 kd_111) rfl rfl rfl (Nat.le_of_ble_eq_true rfl) rfl dX1_widthAtRank_5 ?_
  exact j_retI hR dX1_widthAtRank_8 hf
theorem c_X1_widthAtRank {l : Launch} {D : va_G} {cI cS : ClassId} {ad : Nat → Nat} (N : Nat) (C : kS) (a1 : Int32) {r : Int32} (hf : f_X1_widthAtRank N C a1 = some r) : mI l yX1_widthAtRank wsX1_widthAtRank rm_X1_widthAtRank D cI cS (WC cI cS ad) C [.ref (ad 106), .int a1] r :=
  mI.of (by decide) rfl rfl (Nat.le_of_ble_eq_true rfl) (fun g X hR => t_X1_widthAtRank X  hR N a1  hf)
abbrev rm_X0_barWidth : Room := { frames := 2, cells := 0, slots := 0, locals := 44 }
theorem lk_X0_barWidth_0 : Cond.fieldLink RX0 9 "BlackBars$Bars" "forms" "LBlackBars$Forms;" ∈ wsX0_barWidth := List.mem_of_getElem? (i := 1) rfl
theorem iw_X0_barWidth_X0 : ∀ w ∈ wsX00, w ∈ wsX0_barWidth := fun _ h => List.mem_cons_of_mem _ (List.mem_append_left _ (List.mem_append_left _ (List.mem_append_right _ h)))
theorem hd_X0_barWidth : kHd yX0_barWidth 4 := by decide +kernel
set_option maxHeartbeats 4000000 in
set_option maxRecDepth 100000 in
theorem t_X0_barWidth {g : kG} {cI cS : ClassId} {ad : Nat → Nat} {C : kS} (X : Kx g cI cS cX0_barWidth RX0 wsX0_barWidth 5 rm_X0_barWidth) {r : Int32} (hR : kRI g (WC cI cS ad) 5 cX0_barWidth .int C r) (N : Nat) (k : Nat) (a1 : Int32) (a2 : Int32) (a3 : Int32) (a4 : Int32) (hk : kd k = 0) (hf : f_X0_barWidth N C k a1 a2 a3 a4 = some r) : J g (WC cI cS ad) 5 C 0 [some (.ref (ad k)), some (.int a1), some (.int a2), some (.int a3), some (.int a4)] [] := by
  unfold f_X0_barWidth at hf
  refine j_iload_n (pc := 0) X dX0_barWidth_0 rfl ?_
  rcases Decidable.em (a2 = 1) with c1 | c1
  · have hf := kT c1 hf
    refine j_tabIn (v := 1) (off := 27) (tgt := 28) (pc := 1) X dX0_barWidth_1 c1 (by decide) (by decide) (by decide) rfl ?_
    refine j_aload_n (pc := 28) X dX0_barWidth_28 rfl ?_
    refine j_get (pc := 29) X iw_X0_barWidth_X0 (wc0 hk) rfl 0 (Nat.le_of_ble_eq_true rfl) lk_X0_barWidth_0 (v := .ref (ad 106)) rfl dX0_barWidth_29 ?_
    refine j_iload_n (pc := 32) X dX0_barWidth_32 rfl ?_
    obtain ⟨r3, h2, hf⟩ := kB hf
    refine j_callI (pc := 33) X (c_X1_widthOf N C a1 h2) gX0_barWidth_X1_widthOf rfl ⟨rfl, rfl⟩ rfl hd_X1_widthOf ⟨(Nat.le_of_ble_eq_true rfl), (Nat.le_of_ble_eq_true rfl)⟩ (wc1 kd_106) rfl rfl rfl (Nat.le_of_ble_eq_true rfl) rfl dX0_barWidth_33 ?_
    refine j_iload_n (pc := 36) X dX0_barWidth_36 rfl ?_
    obtain ⟨r5, h4, hf⟩ := kB hf
    refine j_callP (pc := 37) X (c_X0_upToMultiple N r3 a3 h4) gX0_barWidth_X0_upToMultiple rfl ⟨rfl, rfl⟩ hd_X0_upToMultiple ⟨(Nat.le_of_ble_eq_true rfl), (Nat.le_of_ble_eq_true rfl)⟩ rfl (Nat.le_of_ble_eq_true rfl) rfl dX0_barWidth_37 ?_
    exact j_retI hR dX0_barWidth_40 hf
  · have hf := kF c1 hf
    rcases Decidable.em (a2 = 2) with c6 | c6
    · have hf := kT c6 hf
      refine j_tabIn (v := 2) (off := 40) (tgt := 41) (pc := 1) X dX0_barWidth_1 c6 (by decide) (by decide) (by decide) rfl ?_
      refine j_aload_n (pc := 41) X dX0_barWidth_41 rfl ?_
      refine j_get (pc := 42) X iw_X0_barWidth_X0 (wc0 hk) rfl 0 (Nat.le_of_ble_eq_true rfl) lk_X0_barWidth_0 (v := .ref (ad 106)) rfl dX0_barWidth_42 ?_
      refine j_aload_n (pc := 45) X dX0_barWidth_45 rfl ?_
      refine j_aload_n (pc := 46) X dX0_barWidth_46 rfl ?_
      refine j_get (pc := 47) X iw_X0_barWidth_X0 (wc0 hk) rfl 0 (Nat.le_of_ble_eq_true rfl) lk_X0_barWidth_0 (v := .ref (ad 106)) rfl dX0_barWidth_47 ?_
      refine j_iload_n (pc := 50) X dX0_barWidth_50 rfl ?_
      obtain ⟨r8, h7, hf⟩ := kB hf
      refine j_callI (pc := 51) X (c_X1_rankOf N C a1 h7) gX0_barWidth_X1_rankOf rfl ⟨rfl, rfl⟩ rfl hd_X1_rankOf ⟨(Nat.le_of_ble_eq_true rfl), (Nat.le_of_ble_eq_true rfl)⟩ (wc1 kd_106) rfl rfl rfl (Nat.le_of_ble_eq_true rfl) rfl dX0_barWidth_51 ?_
      refine j_iload (pc := 54) X dX0_barWidth_54 rfl ?_
      obtain ⟨r10, h9, hf⟩ := kB hf
      refine j_callI (pc := 56) X (c_X0_lastRankOfGroup N C k hk r8 a4 h9) gX0_barWidth_X0_lastRankOfGroup rfl ⟨rfl, rfl⟩ rfl hd_X0_lastRankOfGroup ⟨(Nat.le_of_ble_eq_true rfl), (Nat.le_of_ble_eq_true rfl)⟩ (wc0 hk) rfl rfl rfl (Nat.le_of_ble_eq_true rfl) rfl dX0_barWidth_56 ?_
      obtain ⟨r12, h11, hf⟩ := kB hf
      refine j_callI (pc := 59) X (c_X1_widthAtRank N C r10 h11) gX0_barWidth_X1_widthAtRank rfl ⟨rfl, rfl⟩ rfl hd_X1_widthAtRank ⟨(Nat.le_of_ble_eq_true rfl), (Nat.le_of_ble_eq_true rfl)⟩ (wc1 kd_106) rfl rfl rfl (Nat.le_of_ble_eq_true rfl) rfl dX0_barWidth_59 ?_
      exact j_retI hR dX0_barWidth_62 hf
    · have hf := kF c6 hf
      rcases Decidable.em (a2 = 3) with c13 | c13
      · have hf := kT c13 hf
        refine j_tabIn (v := 3) (off := 62) (tgt := 63) (pc := 1) X dX0_barWidth_1 c13 (by decide) (by decide) (by decide) rfl ?_
        refine j_aload_n (pc := 63) X dX0_barWidth_63 rfl ?_
        refine j_get (pc := 64) X iw_X0_barWidth_X0 (wc0 hk) rfl 0 (Nat.le_of_ble_eq_true rfl) lk_X0_barWidth_0 (v := .ref (ad 106)) rfl dX0_barWidth_64 ?_
        refine j_aload_n (pc := 67) X dX0_barWidth_67 rfl ?_
        refine j_get (pc := 68) X iw_X0_barWidth_X0 (wc0 hk) rfl 0 (Nat.le_of_ble_eq_true rfl) lk_X0_barWidth_0 (v := .ref (ad 106)) rfl dX0_barWidth_68 ?_
        obtain ⟨r15, h14, hf⟩ := kB hf
        refine j_callI (pc := 71) X (c_X1_size N C  h14) gX0_barWidth_X1_size rfl ⟨rfl, rfl⟩ rfl hd_X1_size ⟨(Nat.le_of_ble_eq_true rfl), (Nat.le_of_ble_eq_true rfl)⟩ (wc1 kd_106) rfl rfl rfl (Nat.le_of_ble_eq_true rfl) rfl dX0_barWidth_71 ?_
        refine j_iconst (pc := 74) X dX0_barWidth_74 kc_1 ?_
        refine j_isub (pc := 75) X dX0_barWidth_75 ?_
        obtain ⟨r17, h16, hf⟩ := kB hf
        refine j_callI (pc := 76) X (c_X1_widthAtRank N C (r15 - 1) h16) gX0_barWidth_X1_widthAtRank rfl ⟨rfl, rfl⟩ rfl hd_X1_widthAtRank ⟨(Nat.le_of_ble_eq_true rfl), (Nat.le_of_ble_eq_true rfl)⟩ (wc1 kd_106) rfl rfl rfl (Nat.le_of_ble_eq_true rfl) rfl dX0_barWidth_76 ?_
        exact j_retI hR dX0_barWidth_79 hf
      · have hf := kF c13 hf
        refine j_tabOut (tgt := 80) (pc := 1) X dX0_barWidth_1 (by have gc1 := lv_neT (a := 1) c1 (by decide); have gc6 := lv_neT (a := 2) c6 (by decide); have gc13 := lv_neT (a := 3) c13 (by decide); omega) rfl ?_
        refine j_aload_n (pc := 80) X dX0_barWidth_80 rfl ?_
        refine j_get (pc := 81) X iw_X0_barWidth_X0 (wc0 hk) rfl 0 (Nat.le_of_ble_eq_true rfl) lk_X0_barWidth_0 (v := .ref (ad 106)) rfl dX0_barWidth_81 ?_
        refine j_iload_n (pc := 84) X dX0_barWidth_84 rfl ?_
        obtain ⟨r19, h18, hf⟩ := kB hf
        refine j_callI (pc := 85) X (c_X1_widthOf N C a1 h18) gX0_barWidth_X1_widthOf rfl ⟨rfl, rfl⟩ rfl hd_X1_widthOf ⟨(Nat.le_of_ble_eq_true rfl), (Nat.le_of_ble_eq_true rfl)⟩ (wc1 kd_106) rfl rfl rfl (Nat.le_of_ble_eq_true rfl) rfl dX0_barWidth_85 ?_
        exact j_retI hR dX0_barWidth_88 hf
theorem c_X0_barWidth {l : Launch} {D : va_G} {cI cS : ClassId} {ad : Nat → Nat} (N : Nat) (C : kS) (k : Nat) (hk : kd k = 0) (a1 : Int32) (a2 : Int32) (a3 : Int32) (a4 : Int32) {r : Int32} (hf : f_X0_barWidth N C k a1 a2 a3 a4 = some r) : mI l yX0_barWidth wsX0_barWidth rm_X0_barWidth D cI cS (WC cI cS ad) C [.ref (ad k), .int a1, .int a2, .int a3, .int a4] r :=
  mI.of (by decide) rfl rfl (Nat.le_of_ble_eq_true rfl) (fun g X hR => t_X0_barWidth X  hR N k a1 a2 a3 a4 hk hf)
abbrev rm_X3_put : Room := { frames := 0, cells := 0, slots := 0, locals := 0 }
theorem lk_X3_put_0 : Cond.fieldLink RX3 13 "BlackBars$Row" "cells" "[I" ∈ wsX3_put := List.mem_of_getElem? (i := 1) rfl
theorem iw_X3_put_X3 : ∀ w ∈ wsX30, w ∈ wsX3_put := fun _ h => List.mem_cons_of_mem _ (List.mem_append_right _ h)
theorem hd_X3_put : kHd yX3_put 2 := by decide +kernel
set_option maxHeartbeats 4000000 in
set_option maxRecDepth 100000 in
theorem t_X3_put {g : kG} {cI cS : ClassId} {ad : Nat → Nat} (X : Kx g cI cS cX3_put RX3 wsX3_put 3 rm_X3_put) {Cr : kS} (hI : kInj 132 ad) (Y : Kw g (WC cI cS ad) (kAd 132 ad)) (hR : kRV g (WC cI cS ad) 3 cX3_put Cr) (N : Nat) (C : kS) (k : Nat) (a1 : Int32) (a2 : Int32) (hk : kd k = 3) (hf : f_X3_put N C k a1 a2 = some Cr) : J g (WC cI cS ad) 3 C 0 [some (.ref (ad k)), some (.int a1), some (.int a2)] [] := by
  unfold f_X3_put at hf
  refine j_iload_n (pc := 0) X dX3_put_0 rfl ?_
  refine j_if_lt (tgt := 20) (pc := 1) X dX3_put_1 rfl (fun c1 => ?_) (fun c1 => ?_)
  · have hf := kT c1 hf
    exact j_retV hR dX3_put_20 hf
  · have hf := kF c1 hf
    refine j_iload_n (pc := 4) X dX3_put_4 rfl ?_
    refine j_aload_n (pc := 5) X dX3_put_5 rfl ?_
    refine j_get (pc := 6) X iw_X3_put_X3 (wc3 hk) rfl 0 (Nat.le_of_ble_eq_true rfl) lk_X3_put_0 (v := .ref (ad (k + 1))) rfl dX3_put_6 ?_
    refine j_alen (pc := 9) X (wcA (kd3_1 hk)) 0 rfl (v := nI (ln (k + 1))) rfl dX3_put_9 ?_
    refine j_icmp_ge (tgt := 20) (pc := 10) X dX3_put_10 rfl (fun c2 => ?_) (fun c2 => ?_)
    · have hf := kT c2 hf
      exact j_retV hR dX3_put_20 hf
    · have hf := kF c2 hf
      refine j_aload_n (pc := 13) X dX3_put_13 rfl ?_
      refine j_get (pc := 14) X iw_X3_put_X3 (wc3 hk) rfl 0 (Nat.le_of_ble_eq_true rfl) lk_X3_put_0 (v := .ref (ad (k + 1))) rfl dX3_put_14 ?_
      refine j_iload_n (pc := 17) X dX3_put_17 rfl ?_
      refine j_iload_n (pc := 18) X dX3_put_18 rfl ?_
      obtain ⟨b3, hf⟩ := gIn_s hf
      obtain ⟨C4, eC4, hf⟩ := jn_s hf
      refine j_iast (C' := C4) (pc := 19) X Y (wcA (kd3_1 hk)) b3 dX3_put_19 (by rw [eC4]; exact scA (kd3_1 hk) _) ?_
      exact j_retV hR dX3_put_20 hf
theorem c_X3_put {l : Launch} {D : va_G} {cI cS : ClassId} {ad : Nat → Nat} (hI : kInj 132 ad) (N : Nat) (C : kS) (k : Nat) (hk : kd k = 3) (a1 : Int32) (a2 : Int32) {Cr : kS} (hf : f_X3_put N C k a1 a2 = some Cr) : mV l yX3_put wsX3_put rm_X3_put D cI cS (WC cI cS ad) (kAd 132 ad) C [.ref (ad k), .int a1, .int a2] Cr :=
  mV.of (by decide) rfl rfl (Nat.le_of_ble_eq_true rfl) (WC_D hI) (fun g X Y hR => t_X3_put X hI Y hR N C k a1 a2 hk hf)
abbrev rm_X0_draw : Room := { frames := 3, cells := 0, slots := 0, locals := 68 }
theorem lk_X0_draw_0 : Cond.fieldLink RX0 9 "BlackBars$Bars" "forms" "LBlackBars$Forms;" ∈ wsX0_draw := List.mem_of_getElem? (i := 1) rfl
theorem iw_X0_draw_X0 : ∀ w ∈ wsX00, w ∈ wsX0_draw := fun _ h => List.mem_cons_of_mem _ (List.mem_append_left _ (List.mem_append_left _ (List.mem_append_right _ h)))
theorem lk_X0_draw_1 : Cond.fieldLink RX0 20 "BlackBars$Bars" "widths" "LBlackBars$Row;" ∈ wsX0_draw := List.mem_of_getElem? (i := 2) rfl
theorem hd_X0_draw : kHd yX0_draw 3 := by decide +kernel
set_option maxHeartbeats 4000000 in
set_option maxRecDepth 100000 in
theorem lt_X0_draw_3 {g : kG} {cI cS : ClassId} {ad : Nat → Nat} (X : Kx g cI cS cX0_draw RX0 wsX0_draw 5 rm_X0_draw) {Cr : kS} (hI : kInj 132 ad) (Y : Kw g (WC cI cS ad) (kAd 132 ad)) (hR : kRV g (WC cI cS ad) 5 cX0_draw Cr) (N : Nat) (k : Nat) (a1 : Int32) (a2 : Int32) (a3 : Int32) (hk : kd k = 0) (k39_1 : kS → Option (kS)) (hk39_1 : ∀ (C1 : kS), k39_1 C1 = some Cr → J g (WC cI cS ad) 5 C1 39 [some (.ref (ad k)), some (.int a1), some (.int a2), some (.int a3), none] []) : ∀ (n : Nat) (x3 : Int32) (C4 : kS), lp_X0_draw_3 N k a1 a2 a3 k39_1 n x3 C4 = some Cr → J g (WC cI cS ad) 5 C4 3 [some (.ref (ad k)), some (.int a1), some (.int a2), some (.int a3), some (.int x3)] [] := by
  intro n
  induction n with
  | zero =>
    intro x3 C4 hf
    rw [lp_X0_draw_3] at hf
    cases hf
  | succ n ih =>
    intro x3 C4 hf
    rw [lp_X0_draw_3] at hf
    refine j_iload (pc := 3) X dX0_draw_3 rfl ?_
    refine j_aload_n (pc := 5) X dX0_draw_5 rfl ?_
    refine j_get (pc := 6) X iw_X0_draw_X0 (wc0 hk) rfl 0 (Nat.le_of_ble_eq_true rfl) lk_X0_draw_0 (v := .ref (ad 106)) rfl dX0_draw_6 ?_
    obtain ⟨r6, h5, hf⟩ := kB hf
    refine j_callI (pc := 9) X (c_X1_size N C4  h5) gX0_draw_X1_size rfl ⟨rfl, rfl⟩ rfl hd_X1_size ⟨(Nat.le_of_ble_eq_true rfl), (Nat.le_of_ble_eq_true rfl)⟩ (wc1 kd_106) rfl rfl rfl (Nat.le_of_ble_eq_true rfl) rfl dX0_draw_9 ?_
    refine j_icmp_ge (tgt := 39) (pc := 12) X dX0_draw_12 rfl (fun c7 => ?_) (fun c7 => ?_)
    · have hf := kT c7 hf
      refine j_weak (lv' := [some (.ref (ad k)), some (.int a1), some (.int a2), some (.int a3), none]) (And.intro rfl (And.intro rfl (And.intro rfl (And.intro rfl trivial)))) ?_
      exact hk39_1 _ hf
    · have hf := kF c7 hf
      refine j_aload_n (pc := 15) X dX0_draw_15 rfl ?_
      refine j_get (pc := 16) X iw_X0_draw_X0 (wc0 hk) rfl 1 (Nat.le_of_ble_eq_true rfl) lk_X0_draw_1 (v := .ref (ad (k + 1))) rfl dX0_draw_16 ?_
      refine j_iload (pc := 19) X dX0_draw_19 rfl ?_
      refine j_aload_n (pc := 21) X dX0_draw_21 rfl ?_
      refine j_iload (pc := 22) X dX0_draw_22 rfl ?_
      refine j_iload_n (pc := 24) X dX0_draw_24 rfl ?_
      refine j_iload_n (pc := 25) X dX0_draw_25 rfl ?_
      refine j_iload_n (pc := 26) X dX0_draw_26 rfl ?_
      obtain ⟨r9, h8, hf⟩ := kB hf
      refine j_callI (pc := 27) X (c_X0_barWidth N C4 k hk x3 a1 a2 a3 h8) gX0_draw_X0_barWidth rfl ⟨rfl, rfl⟩ rfl hd_X0_barWidth ⟨(Nat.le_of_ble_eq_true rfl), (Nat.le_of_ble_eq_true rfl)⟩ (wc0 hk) rfl rfl rfl (Nat.le_of_ble_eq_true rfl) rfl dX0_draw_27 ?_
      obtain ⟨C11, h10, hf⟩ := kB hf
      refine j_callV (pc := 30) X Y (c_X3_put hI N C4 (k + 1) (kd0_1 hk) x3 r9 h10) gX0_draw_X3_put rfl ⟨rfl, rfl⟩ rfl hd_X3_put ⟨(Nat.le_of_ble_eq_true rfl), (Nat.le_of_ble_eq_true rfl)⟩ (wc3 (kd0_1 hk)) rfl rfl rfl (Nat.le_of_ble_eq_true rfl) rfl dX0_draw_30 ?_
      refine j_iinc (pc := 33) X dX0_draw_33 rfl (v := x3 + 1) (by rw [kc_1]) (Nat.le_of_ble_eq_true rfl) (lv' := [some (.ref (ad k)), some (.int a1), some (.int a2), some (.int a3), some (.int (x3 + 1))]) rfl ?_
      refine j_goto (tgt := 3) (pc := 36) X dX0_draw_36 rfl ?_
      exact ih _ _ hf
set_option maxHeartbeats 4000000 in
set_option maxRecDepth 100000 in
theorem t_X0_draw {g : kG} {cI cS : ClassId} {ad : Nat → Nat} (X : Kx g cI cS cX0_draw RX0 wsX0_draw 5 rm_X0_draw) {Cr : kS} (hI : kInj 132 ad) (Y : Kw g (WC cI cS ad) (kAd 132 ad)) (hR : kRV g (WC cI cS ad) 5 cX0_draw Cr) (N : Nat) (C : kS) (k : Nat) (a1 : Int32) (a2 : Int32) (a3 : Int32) (hk : kd k = 0) (hf : f_X0_draw N C k a1 a2 a3 = some Cr) : J g (WC cI cS ad) 5 C 0 [some (.ref (ad k)), some (.int a1), some (.int a2), some (.int a3), none] [] := by
  unfold f_X0_draw at hf
  refine j_iconst (pc := 0) X dX0_draw_0 kc_0 ?_
  refine j_istore (pc := 1) X dX0_draw_1 (Nat.le_of_ble_eq_true rfl) (lv' := [some (.ref (ad k)), some (.int a1), some (.int a2), some (.int a3), some (.int 0)]) rfl ?_
  obtain ⟨k39_1, ek39_1, hf⟩ := jn_s hf
  have hk39_1 : ∀ (C1 : kS), k39_1 C1 = some Cr → J g (WC cI cS ad) 5 C1 39 [some (.ref (ad k)), some (.int a1), some (.int a2), some (.int a3), none] [] := by
    intro C1 hf
    have hf := jE1 ek39_1 hf
    exact j_retV hR dX0_draw_39 hf
  exact lt_X0_draw_3 X hI Y hR N k a1 a2 a3 hk    k39_1 hk39_1 N _ _ hf
theorem c_X0_draw {l : Launch} {D : va_G} {cI cS : ClassId} {ad : Nat → Nat} (hI : kInj 132 ad) (N : Nat) (C : kS) (k : Nat) (hk : kd k = 0) (a1 : Int32) (a2 : Int32) (a3 : Int32) {Cr : kS} (hf : f_X0_draw N C k a1 a2 a3 = some Cr) : mV l yX0_draw wsX0_draw rm_X0_draw D cI cS (WC cI cS ad) (kAd 132 ad) C [.ref (ad k), .int a1, .int a2, .int a3] Cr :=
  mV.of (by decide) rfl rfl (Nat.le_of_ble_eq_true rfl) (WC_D hI) (fun g X Y hR => t_X0_draw X hI Y hR N C k a1 a2 a3 hk hf)
abbrev rm_X1_nameOf : Room := { frames := 0, cells := 0, slots := 0, locals := 0 }
theorem lk_X1_nameOf_0 : Cond.fieldLink RX1 26 "BlackBars$Forms" "formsOfName" "I" ∈ wsX1_nameOf := List.mem_of_getElem? (i := 1) rfl
theorem iw_X1_nameOf_X1 : ∀ w ∈ wsX10, w ∈ wsX1_nameOf := fun _ h => List.mem_cons_of_mem _ (List.mem_append_right _ h)
theorem hd_X1_nameOf : kHd yX1_nameOf 1 := by decide +kernel
set_option maxHeartbeats 4000000 in
set_option maxRecDepth 100000 in
theorem t_X1_nameOf {g : kG} {cI cS : ClassId} {ad : Nat → Nat} {C : kS} (X : Kx g cI cS cX1_nameOf RX1 wsX1_nameOf 2 rm_X1_nameOf) {r : Int32} (hR : kRI g (WC cI cS ad) 2 cX1_nameOf .int C r) (N : Nat) (a1 : Int32)  (hf : f_X1_nameOf N C a1 = some r) : J g (WC cI cS ad) 2 C 0 [some (.ref (ad 106)), some (.int a1)] [] := by
  unfold f_X1_nameOf at hf
  refine j_aload_n (pc := 0) X dX1_nameOf_0 rfl ?_
  refine j_get (pc := 1) X iw_X1_nameOf_X1 (wc1 kd_106) rfl 3 (Nat.le_of_ble_eq_true rfl) lk_X1_nameOf_0 (v := .int (C 106 3)) rfl dX1_nameOf_1 ?_
  refine j_iconst (pc := 4) X dX1_nameOf_4 kc_1 ?_
  obtain ⟨j18_1, ej18_1, hf⟩ := jn_s hf
  have hj18_1 : ∀ (t1 : Int32), j18_1 t1 = some r → J g (WC cI cS ad) 2 C 18 [some (.ref (ad 106)), some (.int a1)] [.int t1] := by
    intro t1 hf
    have hf := jE1 ej18_1 hf
    exact j_retI hR dX1_nameOf_18 hf
  refine j_icmp_ge (tgt := 12) (pc := 5) X dX1_nameOf_5 rfl (fun c3 => ?_) (fun c3 => ?_)
  · have hf := kT c3 hf
    refine j_iload_n (pc := 12) X dX1_nameOf_12 rfl ?_
    refine j_aload_n (pc := 13) X dX1_nameOf_13 rfl ?_
    refine j_get (pc := 14) X iw_X1_nameOf_X1 (wc1 kd_106) rfl 3 (Nat.le_of_ble_eq_true rfl) lk_X1_nameOf_0 (v := .int (C 106 3)) rfl dX1_nameOf_14 ?_
    obtain ⟨z4, hf⟩ := gNz_s hf
    refine j_idiv (pc := 17) X dX1_nameOf_17 z4 ?_
    exact hj18_1 _ hf
  · have hf := kF c3 hf
    refine j_iconst (pc := 8) X dX1_nameOf_8 kc_0 ?_
    refine j_goto (tgt := 18) (pc := 9) X dX1_nameOf_9 rfl ?_
    exact hj18_1 _ hf
theorem c_X1_nameOf {l : Launch} {D : va_G} {cI cS : ClassId} {ad : Nat → Nat} (N : Nat) (C : kS) (a1 : Int32) {r : Int32} (hf : f_X1_nameOf N C a1 = some r) : mI l yX1_nameOf wsX1_nameOf rm_X1_nameOf D cI cS (WC cI cS ad) C [.ref (ad 106), .int a1] r :=
  mI.of (by decide) rfl rfl (Nat.le_of_ble_eq_true rfl) (fun g X hR => t_X1_nameOf X  hR N a1  hf)
abbrev rm_X0_namesUnder : Room := { frames := 1, cells := 0, slots := 0, locals := 21 }
theorem lk_X0_namesUnder_0 : Cond.fieldLink RX0 9 "BlackBars$Bars" "forms" "LBlackBars$Forms;" ∈ wsX0_namesUnder := List.mem_of_getElem? (i := 1) rfl
theorem iw_X0_namesUnder_X0 : ∀ w ∈ wsX00, w ∈ wsX0_namesUnder := fun _ h => List.mem_cons_of_mem _ (List.mem_append_left _ (List.mem_append_left _ (List.mem_append_right _ h)))
theorem lk_X0_namesUnder_1 : Cond.fieldLink RX0 20 "BlackBars$Bars" "widths" "LBlackBars$Row;" ∈ wsX0_namesUnder := List.mem_of_getElem? (i := 2) rfl
theorem hd_X0_namesUnder : kHd yX0_namesUnder 1 := by decide +kernel
set_option maxHeartbeats 4000000 in
set_option maxRecDepth 100000 in
theorem lt_X0_namesUnder_4 {g : kG} {cI cS : ClassId} {ad : Nat → Nat} {C : kS} (X : Kx g cI cS cX0_namesUnder RX0 wsX0_namesUnder 4 rm_X0_namesUnder) {r : Int32} (hR : kRI g (WC cI cS ad) 4 cX0_namesUnder .int C r) (N : Nat) (k : Nat) (a1 : Int32) (hk : kd k = 0) (k46_1 : Int32 → Option (Int32)) (hk46_1 : ∀ (x1 : Int32), k46_1 x1 = some r → J g (WC cI cS ad) 4 C 46 [some (.ref (ad k)), some (.int a1), some (.int x1), none] []) : ∀ (n : Nat) (x3 : Int32) (x4 : Int32), lp_X0_namesUnder_4 N C k a1 k46_1 n x3 x4 = some r → J g (WC cI cS ad) 4 C 4 [some (.ref (ad k)), some (.int a1), some (.int x3), some (.int x4)] [] := by
  intro n
  induction n with
  | zero =>
    intro x3 x4 hf
    rw [lp_X0_namesUnder_4] at hf
    cases hf
  | succ n ih =>
    intro x3 x4 hf
    rw [lp_X0_namesUnder_4] at hf
    refine j_iload_n (pc := 4) X dX0_namesUnder_4 rfl ?_
    refine j_aload_n (pc := 5) X dX0_namesUnder_5 rfl ?_
    refine j_get (pc := 6) X iw_X0_namesUnder_X0 (wc0 hk) rfl 0 (Nat.le_of_ble_eq_true rfl) lk_X0_namesUnder_0 (v := .ref (ad 106)) rfl dX0_namesUnder_6 ?_
    obtain ⟨r6, h5, hf⟩ := kB hf
    refine j_callI (pc := 9) X (c_X1_size N C  h5) gX0_namesUnder_X1_size rfl ⟨rfl, rfl⟩ rfl hd_X1_size ⟨(Nat.le_of_ble_eq_true rfl), (Nat.le_of_ble_eq_true rfl)⟩ (wc1 kd_106) rfl rfl rfl (Nat.le_of_ble_eq_true rfl) rfl dX0_namesUnder_9 ?_
    refine j_icmp_ge (tgt := 46) (pc := 12) X dX0_namesUnder_12 rfl (fun c7 => ?_) (fun c7 => ?_)
    · have hf := kT c7 hf
      refine j_weak (lv' := [some (.ref (ad k)), some (.int a1), some (.int x3), none]) (And.intro rfl (And.intro rfl (And.intro rfl trivial))) ?_
      exact hk46_1 _ hf
    · have hf := kF c7 hf
      refine j_aload_n (pc := 15) X dX0_namesUnder_15 rfl ?_
      refine j_get (pc := 16) X iw_X0_namesUnder_X0 (wc0 hk) rfl 1 (Nat.le_of_ble_eq_true rfl) lk_X0_namesUnder_1 (v := .ref (ad (k + 1))) rfl dX0_namesUnder_16 ?_
      refine j_iload_n (pc := 19) X dX0_namesUnder_19 rfl ?_
      obtain ⟨r9, h8, hf⟩ := kB hf
      refine j_callI (pc := 20) X (c_X3_at N C (k + 1) (kd0_1 hk) x4 h8) gX0_namesUnder_X3_at rfl ⟨rfl, rfl⟩ rfl hd_X3_at ⟨(Nat.le_of_ble_eq_true rfl), (Nat.le_of_ble_eq_true rfl)⟩ (wc3 (kd0_1 hk)) rfl rfl rfl (Nat.le_of_ble_eq_true rfl) rfl dX0_namesUnder_20 ?_
      refine j_iload_n (pc := 23) X dX0_namesUnder_23 rfl ?_
      obtain ⟨j40_10, ej40_10, hf⟩ := jn_s hf
      have hj40_10 : ∀ (x10 : Int32), j40_10 x10 = some r → J g (WC cI cS ad) 4 C 40 [some (.ref (ad k)), some (.int a1), some (.int x10), some (.int x4)] [] := by
        intro x10 hf
        have hf := jE1 ej40_10 hf
        refine j_iinc (pc := 40) X dX0_namesUnder_40 rfl (v := x4 + 1) (by rw [kc_1]) (Nat.le_of_ble_eq_true rfl) (lv' := [some (.ref (ad k)), some (.int a1), some (.int x10), some (.int (x4 + 1))]) rfl ?_
        refine j_goto (tgt := 4) (pc := 43) X dX0_namesUnder_43 rfl ?_
        exact ih _ _ hf
      refine j_icmp_ne (tgt := 40) (pc := 24) X dX0_namesUnder_24 rfl (fun c12 => ?_) (fun c12 => ?_)
      · have hf := kF c12 hf
        exact hj40_10 _ hf
      · have hf := kT c12 hf
        refine j_iload_n (pc := 27) X dX0_namesUnder_27 rfl ?_
        refine j_iconst (pc := 28) X dX0_namesUnder_28 kc_1 ?_
        refine j_aload_n (pc := 29) X dX0_namesUnder_29 rfl ?_
        refine j_get (pc := 30) X iw_X0_namesUnder_X0 (wc0 hk) rfl 0 (Nat.le_of_ble_eq_true rfl) lk_X0_namesUnder_0 (v := .ref (ad 106)) rfl dX0_namesUnder_30 ?_
        refine j_iload_n (pc := 33) X dX0_namesUnder_33 rfl ?_
        obtain ⟨r14, h13, hf⟩ := kB hf
        refine j_callI (pc := 34) X (c_X1_nameOf N C x4 h13) gX0_namesUnder_X1_nameOf rfl ⟨rfl, rfl⟩ rfl hd_X1_nameOf ⟨(Nat.le_of_ble_eq_true rfl), (Nat.le_of_ble_eq_true rfl)⟩ (wc1 kd_106) rfl rfl rfl (Nat.le_of_ble_eq_true rfl) rfl dX0_namesUnder_34 ?_
        refine j_ishl (pc := 37) X dX0_namesUnder_37 ?_
        refine j_ior (pc := 38) X dX0_namesUnder_38 ?_
        refine j_istore_n (pc := 39) X dX0_namesUnder_39 (Nat.le_of_ble_eq_true rfl) (lv' := [some (.ref (ad k)), some (.int a1), some (.int (x3 ||| (1 <<< (r14 &&& 31)))), some (.int x4)]) rfl ?_
        exact hj40_10 _ hf
set_option maxHeartbeats 4000000 in
set_option maxRecDepth 100000 in
theorem t_X0_namesUnder {g : kG} {cI cS : ClassId} {ad : Nat → Nat} {C : kS} (X : Kx g cI cS cX0_namesUnder RX0 wsX0_namesUnder 4 rm_X0_namesUnder) {r : Int32} (hR : kRI g (WC cI cS ad) 4 cX0_namesUnder .int C r) (N : Nat) (k : Nat) (a1 : Int32) (hk : kd k = 0) (hf : f_X0_namesUnder N C k a1 = some r) : J g (WC cI cS ad) 4 C 0 [some (.ref (ad k)), some (.int a1), none, none] [] := by
  unfold f_X0_namesUnder at hf
  refine j_iconst (pc := 0) X dX0_namesUnder_0 kc_0 ?_
  refine j_istore_n (pc := 1) X dX0_namesUnder_1 (Nat.le_of_ble_eq_true rfl) (lv' := [some (.ref (ad k)), some (.int a1), some (.int 0), none]) rfl ?_
  refine j_iconst (pc := 2) X dX0_namesUnder_2 kc_0 ?_
  refine j_istore_n (pc := 3) X dX0_namesUnder_3 (Nat.le_of_ble_eq_true rfl) (lv' := [some (.ref (ad k)), some (.int a1), some (.int 0), some (.int 0)]) rfl ?_
  obtain ⟨k46_1, ek46_1, hf⟩ := jn_s hf
  have hk46_1 : ∀ (x1 : Int32), k46_1 x1 = some r → J g (WC cI cS ad) 4 C 46 [some (.ref (ad k)), some (.int a1), some (.int x1), none] [] := by
    intro x1 hf
    have hf := jE1 ek46_1 hf
    refine j_iload_n (pc := 46) X dX0_namesUnder_46 rfl ?_
    exact j_retI hR dX0_namesUnder_47 hf
  exact lt_X0_namesUnder_4 X hR N k a1  hk  k46_1 hk46_1 N _ _ hf
theorem c_X0_namesUnder {l : Launch} {D : va_G} {cI cS : ClassId} {ad : Nat → Nat} (N : Nat) (C : kS) (k : Nat) (hk : kd k = 0) (a1 : Int32) {r : Int32} (hf : f_X0_namesUnder N C k a1 = some r) : mI l yX0_namesUnder wsX0_namesUnder rm_X0_namesUnder D cI cS (WC cI cS ad) C [.ref (ad k), .int a1] r :=
  mI.of (by decide) rfl rfl (Nat.le_of_ble_eq_true rfl) (fun g X hR => t_X0_namesUnder X  hR N k a1 hk hf)
abbrev rm_X0_widthOf : Room := { frames := 1, cells := 0, slots := 0, locals := 21 }
theorem lk_X0_widthOf_0 : Cond.fieldLink RX0 20 "BlackBars$Bars" "widths" "LBlackBars$Row;" ∈ wsX0_widthOf := List.mem_of_getElem? (i := 1) rfl
theorem iw_X0_widthOf_X0 : ∀ w ∈ wsX00, w ∈ wsX0_widthOf := fun _ h => List.mem_cons_of_mem _ (List.mem_append_left _ (List.mem_append_right _ h))
theorem hd_X0_widthOf : kHd yX0_widthOf 1 := by decide +kernel
set_option maxHeartbeats 4000000 in
set_option maxRecDepth 100000 in
theorem t_X0_widthOf {g : kG} {cI cS : ClassId} {ad : Nat → Nat} {C : kS} (X : Kx g cI cS cX0_widthOf RX0 wsX0_widthOf 2 rm_X0_widthOf) {r : Int32} (hR : kRI g (WC cI cS ad) 2 cX0_widthOf .int C r) (N : Nat) (k : Nat) (a1 : Int32) (hk : kd k = 0) (hf : f_X0_widthOf N C k a1 = some r) : J g (WC cI cS ad) 2 C 0 [some (.ref (ad k)), some (.int a1)] [] := by
  unfold f_X0_widthOf at hf
  refine j_aload_n (pc := 0) X dX0_widthOf_0 rfl ?_
  refine j_get (pc := 1) X iw_X0_widthOf_X0 (wc0 hk) rfl 1 (Nat.le_of_ble_eq_true rfl) lk_X0_widthOf_0 (v := .ref (ad (k + 1))) rfl dX0_widthOf_1 ?_
  refine j_iload_n (pc := 4) X dX0_widthOf_4 rfl ?_
  obtain ⟨r2, h1, hf⟩ := kB hf
  refine j_callI (pc := 5) X (c_X3_at N C (k + 1) (kd0_1 hk) a1 h1) gX0_widthOf_X3_at rfl ⟨rfl, rfl⟩ rfl hd_X3_at ⟨(Nat.le_of_ble_eq_true rfl), (Nat.le_of_ble_eq_true rfl)⟩ (wc3 (kd0_1 hk)) rfl rfl rfl (Nat.le_of_ble_eq_true rfl) rfl dX0_widthOf_5 ?_
  exact j_retI hR dX0_widthOf_8 hf
theorem c_X0_widthOf {l : Launch} {D : va_G} {cI cS : ClassId} {ad : Nat → Nat} (N : Nat) (C : kS) (k : Nat) (hk : kd k = 0) (a1 : Int32) {r : Int32} (hf : f_X0_widthOf N C k a1 = some r) : mI l yX0_widthOf wsX0_widthOf rm_X0_widthOf D cI cS (WC cI cS ad) C [.ref (ad k), .int a1] r :=
  mI.of (by decide) rfl rfl (Nat.le_of_ble_eq_true rfl) (fun g X hR => t_X0_widthOf X  hR N k a1 hk hf)
abbrev rm_X1_endingOf : Room := { frames := 0, cells := 0, slots := 0, locals := 0 }
theorem lk_X1_endingOf_0 : Cond.fieldLink RX1 26 "BlackBars$Forms" "formsOfName" "I" ∈ wsX1_endingOf := List.mem_of_getElem? (i := 1) rfl
theorem iw_X1_endingOf_X1 : ∀ w ∈ wsX10, w ∈ wsX1_endingOf := fun _ h => List.mem_cons_of_mem _ (List.mem_append_right _ h)
theorem hd_X1_endingOf : kHd yX1_endingOf 1 := by decide +kernel
set_option maxHeartbeats 4000000 in
set_option maxRecDepth 100000 in
theorem t_X1_endingOf {g : kG} {cI cS : ClassId} {ad : Nat → Nat} {C : kS} (X : Kx g cI cS cX1_endingOf RX1 wsX1_endingOf 2 rm_X1_endingOf) {r : Int32} (hR : kRI g (WC cI cS ad) 2 cX1_endingOf .int C r) (N : Nat) (a1 : Int32)  (hf : f_X1_endingOf N C a1 = some r) : J g (WC cI cS ad) 2 C 0 [some (.ref (ad 106)), some (.int a1)] [] := by
  unfold f_X1_endingOf at hf
  refine j_aload_n (pc := 0) X dX1_endingOf_0 rfl ?_
  refine j_get (pc := 1) X iw_X1_endingOf_X1 (wc1 kd_106) rfl 3 (Nat.le_of_ble_eq_true rfl) lk_X1_endingOf_0 (v := .int (C 106 3)) rfl dX1_endingOf_1 ?_
  refine j_iconst (pc := 4) X dX1_endingOf_4 kc_1 ?_
  obtain ⟨j20_1, ej20_1, hf⟩ := jn_s hf
  have hj20_1 : ∀ (t1 : Int32), j20_1 t1 = some r → J g (WC cI cS ad) 2 C 20 [some (.ref (ad 106)), some (.int a1)] [.int t1] := by
    intro t1 hf
    have hf := jE1 ej20_1 hf
    exact j_retI hR dX1_endingOf_20 hf
  refine j_icmp_ge (tgt := 12) (pc := 5) X dX1_endingOf_5 rfl (fun c3 => ?_) (fun c3 => ?_)
  · have hf := kT c3 hf
    refine j_iload_n (pc := 12) X dX1_endingOf_12 rfl ?_
    refine j_aload_n (pc := 13) X dX1_endingOf_13 rfl ?_
    refine j_get (pc := 14) X iw_X1_endingOf_X1 (wc1 kd_106) rfl 3 (Nat.le_of_ble_eq_true rfl) lk_X1_endingOf_0 (v := .int (C 106 3)) rfl dX1_endingOf_14 ?_
    obtain ⟨z4, hf⟩ := gNz_s hf
    refine j_irem (pc := 17) X dX1_endingOf_17 z4 ?_
    refine j_iconst (pc := 18) X dX1_endingOf_18 kc_1 ?_
    refine j_isub (pc := 19) X dX1_endingOf_19 ?_
    exact hj20_1 _ hf
  · have hf := kF c3 hf
    refine j_iconst (pc := 8) X dX1_endingOf_8 kc_m1 ?_
    refine j_goto (tgt := 20) (pc := 9) X dX1_endingOf_9 rfl ?_
    exact hj20_1 _ hf
theorem c_X1_endingOf {l : Launch} {D : va_G} {cI cS : ClassId} {ad : Nat → Nat} (N : Nat) (C : kS) (a1 : Int32) {r : Int32} (hf : f_X1_endingOf N C a1 = some r) : mI l yX1_endingOf wsX1_endingOf rm_X1_endingOf D cI cS (WC cI cS ad) C [.ref (ad 106), .int a1] r :=
  mI.of (by decide) rfl rfl (Nat.le_of_ble_eq_true rfl) (fun g X hR => t_X1_endingOf X  hR N a1  hf)
abbrev rm_X1_formsAheadOf : Room := { frames := 1, cells := 0, slots := 0, locals := 21 }
theorem lk_X1_formsAheadOf_0 : Cond.fieldLink RX1 14 "BlackBars$Forms" "widths" "LBlackBars$Row;" ∈ wsX1_formsAheadOf := List.mem_of_getElem? (i := 1) rfl
theorem iw_X1_formsAheadOf_X1 : ∀ w ∈ wsX10, w ∈ wsX1_formsAheadOf := fun _ h => List.mem_cons_of_mem _ (List.mem_append_left _ (List.mem_append_right _ h))
theorem lk_X1_formsAheadOf_1 : Cond.fieldLink RX1 30 "BlackBars$Forms" "size" "I" ∈ wsX1_formsAheadOf := List.mem_of_getElem? (i := 2) rfl
theorem hd_X1_formsAheadOf : kHd yX1_formsAheadOf 1 := by decide +kernel
set_option maxHeartbeats 4000000 in
set_option maxRecDepth 100000 in
theorem lt_X1_formsAheadOf_14 {g : kG} {cI cS : ClassId} {ad : Nat → Nat} {C : kS} (X : Kx g cI cS cX1_formsAheadOf RX1 wsX1_formsAheadOf 6 rm_X1_formsAheadOf) {r : Int32} (hR : kRI g (WC cI cS ad) 6 cX1_formsAheadOf .int C r) (N : Nat) (a1 : Int32) (r2 : Int32)  (k61_3 : Int32 → Option (Int32)) (hk61_3 : ∀ (x3 : Int32), k61_3 x3 = some r → J g (WC cI cS ad) 6 C 61 [some (.ref (ad 106)), some (.int a1), some (.int r2), some (.int x3), none, none] []) : ∀ (n : Nat) (x5 : Int32) (x6 : Int32), lp_X1_formsAheadOf_14 N C a1 r2 k61_3 n x5 x6 = some r → J g (WC cI cS ad) 6 C 14 [some (.ref (ad 106)), some (.int a1), some (.int r2), some (.int x5), some (.int x6), none] [] := by
  intro n
  induction n with
  | zero =>
    intro x5 x6 hf
    rw [lp_X1_formsAheadOf_14] at hf
    cases hf
  | succ n ih =>
    intro x5 x6 hf
    rw [lp_X1_formsAheadOf_14] at hf
    refine j_iload (pc := 14) X dX1_formsAheadOf_14 rfl ?_
    refine j_aload_n (pc := 16) X dX1_formsAheadOf_16 rfl ?_
    refine j_get (pc := 17) X iw_X1_formsAheadOf_X1 (wc1 kd_106) rfl 4 (Nat.le_of_ble_eq_true rfl) lk_X1_formsAheadOf_1 (v := .int (C 106 4)) rfl dX1_formsAheadOf_17 ?_
    refine j_icmp_ge (tgt := 61) (pc := 20) X dX1_formsAheadOf_20 rfl (fun c7 => ?_) (fun c7 => ?_)
    · have hf := kT c7 hf
      refine j_weak (lv' := [some (.ref (ad 106)), some (.int a1), some (.int r2), some (.int x5), none, none]) (And.intro rfl (And.intro rfl (And.intro rfl (And.intro rfl trivial)))) ?_
      exact hk61_3 _ hf
    · have hf := kF c7 hf
      refine j_aload_n (pc := 23) X dX1_formsAheadOf_23 rfl ?_
      refine j_get (pc := 24) X iw_X1_formsAheadOf_X1 (wc1 kd_106) rfl 0 (Nat.le_of_ble_eq_true rfl) lk_X1_formsAheadOf_0 (v := .ref (ad 107)) rfl dX1_formsAheadOf_24 ?_
      refine j_iload (pc := 27) X dX1_formsAheadOf_27 rfl ?_
      obtain ⟨r9, h8, hf⟩ := kB hf
      refine j_callI (pc := 29) X (c_X3_at N C 107 kd_107 x6 h8) gX1_formsAheadOf_X3_at rfl ⟨rfl, rfl⟩ rfl hd_X3_at ⟨(Nat.le_of_ble_eq_true rfl), (Nat.le_of_ble_eq_true rfl)⟩ (wc3 kd_107) rfl rfl rfl (Nat.le_of_ble_eq_true rfl) rfl dX1_formsAheadOf_29 ?_
      refine j_istore (pc := 32) X dX1_formsAheadOf_32 (Nat.le_of_ble_eq_true rfl) (lv' := [some (.ref (ad 106)), some (.int a1), some (.int r2), some (.int x5), some (.int x6), some (.int r9)]) rfl ?_
      refine j_iload (pc := 34) X dX1_formsAheadOf_34 rfl ?_
      refine j_iload_n (pc := 36) X dX1_formsAheadOf_36 rfl ?_
      obtain ⟨j55_10, ej55_10, hf⟩ := jn_s hf
      have hj55_10 : ∀ (x10 : Int32), j55_10 x10 = some r → J g (WC cI cS ad) 6 C 55 [some (.ref (ad 106)), some (.int a1), some (.int r2), some (.int x10), some (.int x6), some (.int r9)] [] := by
        intro x10 hf
        have hf := jE1 ej55_10 hf
        refine j_iinc (pc := 55) X dX1_formsAheadOf_55 rfl (v := x6 + 1) (by rw [kc_1]) (Nat.le_of_ble_eq_true rfl) (lv' := [some (.ref (ad 106)), some (.int a1), some (.int r2), some (.int x10), some (.int (x6 + 1)), some (.int r9)]) rfl ?_
        refine j_goto (tgt := 14) (pc := 58) X dX1_formsAheadOf_58 rfl ?_
        refine j_weak (lv' := [some (.ref (ad 106)), some (.int a1), some (.int r2), some (.int x10), some (.int (x6 + 1)), none]) (And.intro rfl (And.intro rfl (And.intro rfl (And.intro rfl (And.intro rfl trivial))))) ?_
        exact ih _ _ hf
      obtain ⟨j52_11, ej52_11, hf⟩ := jn_s hf
      have hj52_11 : ∀ (_ : Unit), j52_11 = some r → J g (WC cI cS ad) 6 C 52 [some (.ref (ad 106)), some (.int a1), some (.int r2), some (.int x5), some (.int x6), some (.int r9)] [] := by
        intro _ hf
        have hf := jE0 ej52_11 hf
        refine j_iinc (pc := 52) X dX1_formsAheadOf_52 rfl (v := x5 + 1) (by rw [kc_1]) (Nat.le_of_ble_eq_true rfl) (lv' := [some (.ref (ad 106)), some (.int a1), some (.int r2), some (.int (x5 + 1)), some (.int x6), some (.int r9)]) rfl ?_
        exact hj55_10 _ hf
      refine j_icmp_lt (tgt := 52) (pc := 37) X dX1_formsAheadOf_37 rfl (fun c13 => ?_) (fun c13 => ?_)
      · have hf := kT c13 hf
        exact hj52_11 () hf
      · have hf := kF c13 hf
        refine j_iload (pc := 40) X dX1_formsAheadOf_40 rfl ?_
        refine j_iload_n (pc := 42) X dX1_formsAheadOf_42 rfl ?_
        refine j_icmp_ne (tgt := 55) (pc := 43) X dX1_formsAheadOf_43 rfl (fun c14 => ?_) (fun c14 => ?_)
        · have hf := kF c14 hf
          exact hj55_10 _ hf
        · have hf := kT c14 hf
          refine j_iload (pc := 46) X dX1_formsAheadOf_46 rfl ?_
          refine j_iload_n (pc := 48) X dX1_formsAheadOf_48 rfl ?_
          refine j_icmp_ge (tgt := 55) (pc := 49) X dX1_formsAheadOf_49 rfl (fun c15 => ?_) (fun c15 => ?_)
          · have hf := kT c15 hf
            exact hj55_10 _ hf
          · have hf := kF c15 hf
            exact hj52_11 () hf
set_option maxHeartbeats 4000000 in
set_option maxRecDepth 100000 in
theorem t_X1_formsAheadOf {g : kG} {cI cS : ClassId} {ad : Nat → Nat} {C : kS} (X : Kx g cI cS cX1_formsAheadOf RX1 wsX1_formsAheadOf 6 rm_X1_formsAheadOf) {r : Int32} (hR : kRI g (WC cI cS ad) 6 cX1_formsAheadOf .int C r) (N : Nat) (a1 : Int32)  (hf : f_X1_formsAheadOf N C a1 = some r) : J g (WC cI cS ad) 6 C 0 [some (.ref (ad 106)), some (.int a1), none, none, none, none] [] := by
  unfold f_X1_formsAheadOf at hf
  refine j_aload_n (pc := 0) X dX1_formsAheadOf_0 rfl ?_
  refine j_get (pc := 1) X iw_X1_formsAheadOf_X1 (wc1 kd_106) rfl 0 (Nat.le_of_ble_eq_true rfl) lk_X1_formsAheadOf_0 (v := .ref (ad 107)) rfl dX1_formsAheadOf_1 ?_
  refine j_iload_n (pc := 4) X dX1_formsAheadOf_4 rfl ?_
  obtain ⟨r2, h1, hf⟩ := kB hf
  refine j_callI (pc := 5) X (c_X3_at N C 107 kd_107 a1 h1) gX1_formsAheadOf_X3_at rfl ⟨rfl, rfl⟩ rfl hd_X3_at ⟨(Nat.le_of_ble_eq_true rfl), (Nat.le_of_ble_eq_true rfl)⟩ (wc3 kd_107) rfl rfl rfl (Nat.le_of_ble_eq_true rfl) rfl dX1_formsAheadOf_5 ?_
  refine j_istore_n (pc := 8) X dX1_formsAheadOf_8 (Nat.le_of_ble_eq_true rfl) (lv' := [some (.ref (ad 106)), some (.int a1), some (.int r2), none, none, none]) rfl ?_
  refine j_iconst (pc := 9) X dX1_formsAheadOf_9 kc_0 ?_
  refine j_istore_n (pc := 10) X dX1_formsAheadOf_10 (Nat.le_of_ble_eq_true rfl) (lv' := [some (.ref (ad 106)), some (.int a1), some (.int r2), some (.int 0), none, none]) rfl ?_
  refine j_iconst (pc := 11) X dX1_formsAheadOf_11 kc_0 ?_
  refine j_istore (pc := 12) X dX1_formsAheadOf_12 (Nat.le_of_ble_eq_true rfl) (lv' := [some (.ref (ad 106)), some (.int a1), some (.int r2), some (.int 0), some (.int 0), none]) rfl ?_
  obtain ⟨k61_3, ek61_3, hf⟩ := jn_s hf
  have hk61_3 : ∀ (x3 : Int32), k61_3 x3 = some r → J g (WC cI cS ad) 6 C 61 [some (.ref (ad 106)), some (.int a1), some (.int r2), some (.int x3), none, none] [] := by
    intro x3 hf
    have hf := jE1 ek61_3 hf
    refine j_iload_n (pc := 61) X dX1_formsAheadOf_61 rfl ?_
    exact j_retI hR dX1_formsAheadOf_62 hf
  exact lt_X1_formsAheadOf_14 X hR N a1 r2    k61_3 hk61_3 N _ _ hf
theorem c_X1_formsAheadOf {l : Launch} {D : va_G} {cI cS : ClassId} {ad : Nat → Nat} (N : Nat) (C : kS) (a1 : Int32) {r : Int32} (hf : f_X1_formsAheadOf N C a1 = some r) : mI l yX1_formsAheadOf wsX1_formsAheadOf rm_X1_formsAheadOf D cI cS (WC cI cS ad) C [.ref (ad 106), .int a1] r :=
  mI.of (by decide) rfl rfl (Nat.le_of_ble_eq_true rfl) (fun g X hR => t_X1_formsAheadOf X  hR N a1  hf)
abbrev rm_X7_size : Room := { frames := 0, cells := 0, slots := 0, locals := 0 }
theorem lk_X7_size_0 : Cond.fieldLink RX7 28 "BlackBars$Words" "size" "I" ∈ wsX7_size := List.mem_of_getElem? (i := 1) rfl
theorem iw_X7_size_X7 : ∀ w ∈ wsX70, w ∈ wsX7_size := fun _ h => List.mem_cons_of_mem _ (List.mem_append_right _ h)
theorem hd_X7_size : kHd yX7_size 0 := by decide +kernel
set_option maxHeartbeats 4000000 in
set_option maxRecDepth 100000 in
theorem t_X7_size {g : kG} {cI cS : ClassId} {ad : Nat → Nat} {C : kS} (X : Kx g cI cS cX7_size RX7 wsX7_size 1 rm_X7_size) {r : Int32} (hR : kRI g (WC cI cS ad) 1 cX7_size .int C r) (N : Nat) (k : Nat) (hk : kd k = 7) (hf : f_X7_size N C k = some r) : J g (WC cI cS ad) 1 C 0 [some (.ref (ad k))] [] := by
  unfold f_X7_size at hf
  refine j_aload_n (pc := 0) X dX7_size_0 rfl ?_
  refine j_get (pc := 1) X iw_X7_size_X7 (wc7 hk) rfl 4 (Nat.le_of_ble_eq_true rfl) lk_X7_size_0 (v := .int (C k 4)) rfl dX7_size_1 ?_
  exact j_retI hR dX7_size_4 hf
theorem c_X7_size {l : Launch} {D : va_G} {cI cS : ClassId} {ad : Nat → Nat} (N : Nat) (C : kS) (k : Nat) (hk : kd k = 7) {r : Int32} (hf : f_X7_size N C k = some r) : mI l yX7_size wsX7_size rm_X7_size D cI cS (WC cI cS ad) C [.ref (ad k)] r :=
  mI.of (by decide) rfl rfl (Nat.le_of_ble_eq_true rfl) (fun g X hR => t_X7_size X  hR N k hk hf)
