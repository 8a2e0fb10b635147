abbrev rm_X4_betrayedBars : Room := { frames := 3, cells := 0, slots := 0, locals := 66 }
theorem lk_X4_betrayedBars_0 : Cond.fieldLink RX4 9 "BlackBars$Sheet" "state" "LBlackBars$State;" ∈ wsX4_betrayedBars := List.mem_of_getElem? (i := 1) rfl
theorem iw_X4_betrayedBars_X4 : ∀ w ∈ wsX40, w ∈ wsX4_betrayedBars := fun _ h => List.mem_cons_of_mem _ (List.mem_append_left _ (List.mem_append_left _ (List.mem_append_left _ (List.mem_append_left _ (List.mem_append_left _ (List.mem_append_right _ h))))))
theorem iw_X4_betrayedBars_X5 : ∀ w ∈ wsX50, w ∈ wsX4_betrayedBars := fun _ h => List.mem_cons_of_mem _ (List.mem_append_left _ (List.mem_append_left _ (List.mem_append_left _ (List.mem_append_left _ (List.mem_append_right _ h)))))
theorem hd_X4_betrayedBars : kHd yX4_betrayedBars 1 := by decide +kernel
set_option maxHeartbeats 4000000 in
set_option maxRecDepth 100000 in
theorem lt_X4_betrayedBars_4 {g : kG} {cI cS : ClassId} {ad : Nat → Nat} {C : kS} (X : Kx g cI cS cX4_betrayedBars RX4 wsX4_betrayedBars 4 rm_X4_betrayedBars) {r : Int32} (hR : kRI g (WC cI cS ad) 4 cX4_betrayedBars .int C r) (N : Nat) (k1 : Nat) (hk1 : kd k1 = 0) (k45_1 : Int32 → Option (Int32)) (hk45_1 : ∀ (x1 : Int32), k45_1 x1 = some r → J g (WC cI cS ad) 4 C 45 [some (.ref (ad 119)), some (.ref (ad k1)), some (.int x1), none] []) : ∀ (n : Nat) (x3 : Int32) (x4 : Int32), lp_X4_betrayedBars_4 N C k1 k45_1 n x3 x4 = some r → J g (WC cI cS ad) 4 C 4 [some (.ref (ad 119)), some (.ref (ad k1)), some (.int x3), some (.int x4)] [] := by
  intro n
  induction n with
  | zero =>
    intro x3 x4 hf
    rw [lp_X4_betrayedBars_4] at hf
    cases hf
  | succ n ih =>
    intro x3 x4 hf
    rw [lp_X4_betrayedBars_4] at hf
    refine j_iload_n (pc := 4) X dX4_betrayedBars_4 rfl ?_
    refine j_aload_n (pc := 5) X dX4_betrayedBars_5 rfl ?_
    refine j_get (pc := 6) X iw_X4_betrayedBars_X4 (wc4 kd_119) rfl 0 (Nat.le_of_ble_eq_true rfl) lk_X4_betrayedBars_0 (v := .ref (ad 4)) rfl dX4_betrayedBars_6 ?_
    refine j_getN (pc := 9) X iw_X4_betrayedBars_X5 (wc5 kd_4) rfl 0 (Nat.le_of_ble_eq_true rfl) (List.mem_of_getElem? (i := 7) rfl) (v := .ref (ad 5)) rfl dX4_betrayedBars_9 ?_
    obtain ⟨r6, h5, hf⟩ := kB hf
    refine j_callI (pc := 12) X (c_X7_size N C 5 (kd5_1 kd_4 : kd 5 = 7) h5) gX4_betrayedBars_X7_size rfl ⟨rfl, rfl⟩ rfl hd_X7_size ⟨(Nat.le_of_ble_eq_true rfl), (Nat.le_of_ble_eq_true rfl)⟩ (wc7 (kd5_1 kd_4 : kd 5 = 7)) rfl rfl rfl (Nat.le_of_ble_eq_true rfl) rfl dX4_betrayedBars_12 ?_
    refine j_icmp_ge (tgt := 45) (pc := 15) X dX4_betrayedBars_15 rfl (fun c7 => ?_) (fun c7 => ?_)
    · have hf := kT c7 hf
      refine j_weak (lv' := [some (.ref (ad 119)), some (.ref (ad k1)), some (.int x3), none]) (And.intro rfl (And.intro rfl (And.intro rfl trivial))) ?_
      exact hk45_1 _ hf
    · have hf := kF c7 hf
      refine j_aload_n (pc := 18) X dX4_betrayedBars_18 rfl ?_
      refine j_iload_n (pc := 19) X dX4_betrayedBars_19 rfl ?_
      obtain ⟨r9, h8, hf⟩ := kB hf
      refine j_callI (pc := 20) X (c_X4_isHidden N C x4 h8) gX4_betrayedBars_X4_isHidden rfl ⟨rfl, rfl⟩ rfl hd_X4_isHidden ⟨(Nat.le_of_ble_eq_true rfl), (Nat.le_of_ble_eq_true rfl)⟩ (wc4 kd_119) rfl rfl rfl (Nat.le_of_ble_eq_true rfl) rfl dX4_betrayedBars_20 ?_
      obtain ⟨j39_10, ej39_10, hf⟩ := jn_s hf
      have hj39_10 : ∀ (x10 : Int32), j39_10 x10 = some r → J g (WC cI cS ad) 4 C 39 [some (.ref (ad 119)), some (.ref (ad k1)), some (.int x10), some (.int x4)] [] := by
        intro x10 hf
        have hf := jE1 ej39_10 hf
        refine j_iinc (pc := 39) X dX4_betrayedBars_39 rfl (v := x4 + 1) (by rw [kc_1]) (Nat.le_of_ble_eq_true rfl) (lv' := [some (.ref (ad 119)), some (.ref (ad k1)), some (.int x10), some (.int (x4 + 1))]) rfl ?_
        refine j_goto (tgt := 4) (pc := 42) X dX4_betrayedBars_42 rfl ?_
        exact ih _ _ hf
      refine j_if_eq (tgt := 39) (pc := 23) X dX4_betrayedBars_23 rfl (fun c12 => ?_) (fun c12 => ?_)
      · have hf := kT c12 hf
        exact hj39_10 _ hf
      · have hf := kF c12 hf
        refine j_aload_n (pc := 26) X dX4_betrayedBars_26 rfl ?_
        refine j_aload_n (pc := 27) X dX4_betrayedBars_27 rfl ?_
        refine j_iload_n (pc := 28) X dX4_betrayedBars_28 rfl ?_
        obtain ⟨r14, h13, hf⟩ := kB hf
        refine j_callI (pc := 29) X (c_X4_namesUnder N C k1 hk1 x4 h13) gX4_betrayedBars_X4_namesUnder rfl ⟨rfl, rfl⟩ rfl hd_X4_namesUnder ⟨(Nat.le_of_ble_eq_true rfl), (Nat.le_of_ble_eq_true rfl)⟩ (wc4 kd_119) rfl rfl rfl (Nat.le_of_ble_eq_true rfl) rfl dX4_betrayedBars_29 ?_
        refine j_iconst (pc := 32) X dX4_betrayedBars_32 kc_1 ?_
        refine j_icmp_ne (tgt := 39) (pc := 33) X dX4_betrayedBars_33 rfl (fun c15 => ?_) (fun c15 => ?_)
        · have hf := kF c15 hf
          exact hj39_10 _ hf
        · have hf := kT c15 hf
          refine j_iinc (pc := 36) X dX4_betrayedBars_36 rfl (v := x3 + 1) (by rw [kc_1]) (Nat.le_of_ble_eq_true rfl) (lv' := [some (.ref (ad 119)), some (.ref (ad k1)), some (.int (x3 + 1)), some (.int x4)]) rfl ?_
          exact hj39_10 _ hf
set_option maxHeartbeats 4000000 in
set_option maxRecDepth 100000 in
theorem t_X4_betrayedBars {g : kG} {cI cS : ClassId} {ad : Nat → Nat} {C : kS} (X : Kx g cI cS cX4_betrayedBars RX4 wsX4_betrayedBars 4 rm_X4_betrayedBars) {r : Int32} (hR : kRI g (WC cI cS ad) 4 cX4_betrayedBars .int C r) (N : Nat) (k1 : Nat) (hk1 : kd k1 = 0) (hf : f_X4_betrayedBars N C k1 = some r) : J g (WC cI cS ad) 4 C 0 [some (.ref (ad 119)), some (.ref (ad k1)), none, none] [] := by
  unfold f_X4_betrayedBars at hf
  refine j_iconst (pc := 0) X dX4_betrayedBars_0 kc_0 ?_
  refine j_istore_n (pc := 1) X dX4_betrayedBars_1 (Nat.le_of_ble_eq_true rfl) (lv' := [some (.ref (ad 119)), some (.ref (ad k1)), some (.int 0), none]) rfl ?_
  refine j_iconst (pc := 2) X dX4_betrayedBars_2 kc_0 ?_
  refine j_istore_n (pc := 3) X dX4_betrayedBars_3 (Nat.le_of_ble_eq_true rfl) (lv' := [some (.ref (ad 119)), some (.ref (ad k1)), some (.int 0), some (.int 0)]) rfl ?_
  obtain ⟨k45_1, ek45_1, hf⟩ := jn_s hf
  have hk45_1 : ∀ (x1 : Int32), k45_1 x1 = some r → J g (WC cI cS ad) 4 C 45 [some (.ref (ad 119)), some (.ref (ad k1)), some (.int x1), none] [] := by
    intro x1 hf
    have hf := jE1 ek45_1 hf
    refine j_iload_n (pc := 45) X dX4_betrayedBars_45 rfl ?_
    exact j_retI hR dX4_betrayedBars_46 hf
  exact lt_X4_betrayedBars_4 X hR N k1  hk1 k45_1 hk45_1 N _ _ hf
theorem c_X4_betrayedBars {l : Launch} {D : va_G} {cI cS : ClassId} {ad : Nat → Nat} (N : Nat) (C : kS) (k1 : Nat) (hk1 : kd k1 = 0) {r : Int32} (hf : f_X4_betrayedBars N C k1 = some r) : mI l yX4_betrayedBars wsX4_betrayedBars rm_X4_betrayedBars D cI cS (WC cI cS ad) C [.ref (ad 119), .ref (ad k1)] r :=
  mI.of (by decide) rfl rfl (Nat.le_of_ble_eq_true rfl) (fun g X hR => t_X4_betrayedBars X  hR N k1 hk1 hf)
abbrev rm_X4_shownWidthOf : Room := { frames := 1, cells := 0, slots := 0, locals := 21 }
theorem lk_X4_shownWidthOf_0 : Cond.fieldLink RX4 31 "BlackBars$Sheet" "shownWidths" "LBlackBars$Row;" ∈ wsX4_shownWidthOf := List.mem_of_getElem? (i := 1) rfl
theorem iw_X4_shownWidthOf_X4 : ∀ w ∈ wsX40, w ∈ wsX4_shownWidthOf := fun _ h => List.mem_cons_of_mem _ (List.mem_append_left _ (List.mem_append_right _ h))
theorem hd_X4_shownWidthOf : kHd yX4_shownWidthOf 1 := by decide +kernel
set_option maxHeartbeats 4000000 in
set_option maxRecDepth 100000 in
theorem t_X4_shownWidthOf {g : kG} {cI cS : ClassId} {ad : Nat → Nat} {C : kS} (X : Kx g cI cS cX4_shownWidthOf RX4 wsX4_shownWidthOf 2 rm_X4_shownWidthOf) {r : Int32} (hR : kRI g (WC cI cS ad) 2 cX4_shownWidthOf .int C r) (N : Nat) (a1 : Int32)  (hf : f_X4_shownWidthOf N C a1 = some r) : J g (WC cI cS ad) 2 C 0 [some (.ref (ad 119)), some (.int a1)] [] := by
  unfold f_X4_shownWidthOf at hf
  refine j_aload_n (pc := 0) X dX4_shownWidthOf_0 rfl ?_
  refine j_get (pc := 1) X iw_X4_shownWidthOf_X4 (wc4 kd_119) rfl 4 (Nat.le_of_ble_eq_true rfl) lk_X4_shownWidthOf_0 (v := .ref (ad 124)) rfl dX4_shownWidthOf_1 ?_
  refine j_iload_n (pc := 4) X dX4_shownWidthOf_4 rfl ?_
  obtain ⟨r2, h1, hf⟩ := kB hf
  refine j_callI (pc := 5) X (c_X3_at N C 124 kd_124 a1 h1) gX4_shownWidthOf_X3_at rfl ⟨rfl, rfl⟩ rfl hd_X3_at ⟨(Nat.le_of_ble_eq_true rfl), (Nat.le_of_ble_eq_true rfl)⟩ (wc3 kd_124) rfl rfl rfl (Nat.le_of_ble_eq_true rfl) rfl dX4_shownWidthOf_5 ?_
  exact j_retI hR dX4_shownWidthOf_8 hf
theorem c_X4_shownWidthOf {l : Launch} {D : va_G} {cI cS : ClassId} {ad : Nat → Nat} (N : Nat) (C : kS) (a1 : Int32) {r : Int32} (hf : f_X4_shownWidthOf N C a1 = some r) : mI l yX4_shownWidthOf wsX4_shownWidthOf rm_X4_shownWidthOf D cI cS (WC cI cS ad) C [.ref (ad 119), .int a1] r :=
  mI.of (by decide) rfl rfl (Nat.le_of_ble_eq_true rfl) (fun g X hR => t_X4_shownWidthOf X  hR N a1  hf)
abbrev rm_X4_hasBarAhead : Room := { frames := 2, cells := 0, slots := 0, locals := 42 }
theorem hd_X4_hasBarAhead : kHd yX4_hasBarAhead 1 := by decide +kernel
set_option maxHeartbeats 4000000 in
set_option maxRecDepth 100000 in
theorem lt_X4_hasBarAhead_2 {g : kG} {cI cS : ClassId} {ad : Nat → Nat} {C : kS} (X : Kx g cI cS cX4_hasBarAhead RX4 wsX4_hasBarAhead 3 rm_X4_hasBarAhead) {r : Int32} (hR : kRI g (WC cI cS ad) 3 cX4_hasBarAhead .boolean C r) (N : Nat) (a1 : Int32)  (k36_0 : Option (Int32)) (hk36_0 : ∀ (_ : Unit), k36_0 = some r → J g (WC cI cS ad) 3 C 36 [some (.ref (ad 119)), some (.int a1), none] []) : ∀ (n : Nat) (x2 : Int32), lp_X4_hasBarAhead_2 N C a1 k36_0 n x2 = some r → J g (WC cI cS ad) 3 C 2 [some (.ref (ad 119)), some (.int a1), some (.int x2)] [] := by
  intro n
  induction n with
  | zero =>
    intro x2 hf
    rw [lp_X4_hasBarAhead_2] at hf
    cases hf
  | succ n ih =>
    intro x2 hf
    rw [lp_X4_hasBarAhead_2] at hf
    refine j_iload_n (pc := 2) X dX4_hasBarAhead_2 rfl ?_
    refine j_iload_n (pc := 3) X dX4_hasBarAhead_3 rfl ?_
    refine j_icmp_ge (tgt := 36) (pc := 4) X dX4_hasBarAhead_4 rfl (fun c3 => ?_) (fun c3 => ?_)
    · have hf := kT c3 hf
      refine j_weak (lv' := [some (.ref (ad 119)), some (.int a1), none]) (And.intro rfl (And.intro rfl trivial)) ?_
      exact hk36_0 () hf
    · have hf := kF c3 hf
      refine j_aload_n (pc := 7) X dX4_hasBarAhead_7 rfl ?_
      refine j_iload_n (pc := 8) X dX4_hasBarAhead_8 rfl ?_
      obtain ⟨r5, h4, hf⟩ := kB hf
      refine j_callI (pc := 9) X (c_X4_isHidden N C x2 h4) gX4_hasBarAhead_X4_isHidden rfl ⟨rfl, rfl⟩ rfl hd_X4_isHidden ⟨(Nat.le_of_ble_eq_true rfl), (Nat.le_of_ble_eq_true rfl)⟩ (wc4 kd_119) rfl rfl rfl (Nat.le_of_ble_eq_true rfl) rfl dX4_hasBarAhead_9 ?_
      obtain ⟨j30_5, ej30_5, hf⟩ := jn_s hf
      have hj30_5 : ∀ (_ : Unit), j30_5 = some r → J g (WC cI cS ad) 3 C 30 [some (.ref (ad 119)), some (.int a1), some (.int x2)] [] := by
        intro _ hf
        have hf := jE0 ej30_5 hf
        refine j_iinc (pc := 30) X dX4_hasBarAhead_30 rfl (v := x2 + 1) (by rw [kc_1]) (Nat.le_of_ble_eq_true rfl) (lv' := [some (.ref (ad 119)), some (.int a1), some (.int (x2 + 1))]) rfl ?_
        refine j_goto (tgt := 2) (pc := 33) X dX4_hasBarAhead_33 rfl ?_
        exact ih _ hf
      refine j_if_eq (tgt := 30) (pc := 12) X dX4_hasBarAhead_12 rfl (fun c7 => ?_) (fun c7 => ?_)
      · have hf := kT c7 hf
        exact hj30_5 () hf
      · have hf := kF c7 hf
        refine j_aload_n (pc := 15) X dX4_hasBarAhead_15 rfl ?_
        refine j_iload_n (pc := 16) X dX4_hasBarAhead_16 rfl ?_
        obtain ⟨r9, h8, hf⟩ := kB hf
        refine j_callI (pc := 17) X (c_X4_shownWidthOf N C x2 h8) gX4_hasBarAhead_X4_shownWidthOf rfl ⟨rfl, rfl⟩ rfl hd_X4_shownWidthOf ⟨(Nat.le_of_ble_eq_true rfl), (Nat.le_of_ble_eq_true rfl)⟩ (wc4 kd_119) rfl rfl rfl (Nat.le_of_ble_eq_true rfl) rfl dX4_hasBarAhead_17 ?_
        refine j_aload_n (pc := 20) X dX4_hasBarAhead_20 rfl ?_
        refine j_iload_n (pc := 21) X dX4_hasBarAhead_21 rfl ?_
        obtain ⟨r11, h10, hf⟩ := kB hf
        refine j_callI (pc := 22) X (c_X4_shownWidthOf N C a1 h10) gX4_hasBarAhead_X4_shownWidthOf rfl ⟨rfl, rfl⟩ rfl hd_X4_shownWidthOf ⟨(Nat.le_of_ble_eq_true rfl), (Nat.le_of_ble_eq_true rfl)⟩ (wc4 kd_119) rfl rfl rfl (Nat.le_of_ble_eq_true rfl) rfl dX4_hasBarAhead_22 ?_
        refine j_icmp_ne (tgt := 30) (pc := 25) X dX4_hasBarAhead_25 rfl (fun c12 => ?_) (fun c12 => ?_)
        · have hf := kF c12 hf
          exact hj30_5 () hf
        · have hf := kT c12 hf
          refine j_iconst (pc := 28) X dX4_hasBarAhead_28 kc_1 ?_
          exact j_retB hR dX4_hasBarAhead_29 hf
set_option maxHeartbeats 4000000 in
set_option maxRecDepth 100000 in
theorem t_X4_hasBarAhead {g : kG} {cI cS : ClassId} {ad : Nat → Nat} {C : kS} (X : Kx g cI cS cX4_hasBarAhead RX4 wsX4_hasBarAhead 3 rm_X4_hasBarAhead) {r : Int32} (hR : kRI g (WC cI cS ad) 3 cX4_hasBarAhead .boolean C r) (N : Nat) (a1 : Int32)  (hf : f_X4_hasBarAhead N C a1 = some r) : J g (WC cI cS ad) 3 C 0 [some (.ref (ad 119)), some (.int a1), none] [] := by
  unfold f_X4_hasBarAhead at hf
  refine j_iconst (pc := 0) X dX4_hasBarAhead_0 kc_0 ?_
  refine j_istore_n (pc := 1) X dX4_hasBarAhead_1 (Nat.le_of_ble_eq_true rfl) (lv' := [some (.ref (ad 119)), some (.int a1), some (.int 0)]) rfl ?_
  obtain ⟨k36_0, ek36_0, hf⟩ := jn_s hf
  have hk36_0 : ∀ (_ : Unit), k36_0 = some r → J g (WC cI cS ad) 3 C 36 [some (.ref (ad 119)), some (.int a1), none] [] := by
    intro _ hf
    have hf := jE0 ek36_0 hf
    refine j_iconst (pc := 36) X dX4_hasBarAhead_36 kc_0 ?_
    exact j_retB hR dX4_hasBarAhead_37 hf
  exact lt_X4_hasBarAhead_2 X hR N a1   k36_0 hk36_0 N _ hf
theorem c_X4_hasBarAhead {l : Launch} {D : va_G} {cI cS : ClassId} {ad : Nat → Nat} (N : Nat) (C : kS) (a1 : Int32) {r : Int32} (hf : f_X4_hasBarAhead N C a1 = some r) : mI l yX4_hasBarAhead wsX4_hasBarAhead rm_X4_hasBarAhead D cI cS (WC cI cS ad) C [.ref (ad 119), .int a1] r :=
  mI.of (by decide) rfl rfl (Nat.le_of_ble_eq_true rfl) (fun g X hR => t_X4_hasBarAhead X  hR N a1  hf)
abbrev rm_X4_differentBarWidths : Room := { frames := 3, cells := 0, slots := 0, locals := 64 }
theorem lk_X4_differentBarWidths_0 : Cond.fieldLink RX4 9 "BlackBars$Sheet" "state" "LBlackBars$State;" ∈ wsX4_differentBarWidths := List.mem_of_getElem? (i := 1) rfl
theorem iw_X4_differentBarWidths_X4 : ∀ w ∈ wsX40, w ∈ wsX4_differentBarWidths := fun _ h => List.mem_cons_of_mem _ (List.mem_append_left _ (List.mem_append_left _ (List.mem_append_left _ (List.mem_append_right _ h))))
theorem iw_X4_differentBarWidths_X5 : ∀ w ∈ wsX50, w ∈ wsX4_differentBarWidths := fun _ h => List.mem_cons_of_mem _ (List.mem_append_left _ (List.mem_append_left _ (List.mem_append_right _ h)))
theorem hd_X4_differentBarWidths : kHd yX4_differentBarWidths 0 := by decide +kernel
set_option maxHeartbeats 4000000 in
set_option maxRecDepth 100000 in
theorem lt_X4_differentBarWidths_4 {g : kG} {cI cS : ClassId} {ad : Nat → Nat} {C : kS} (X : Kx g cI cS cX4_differentBarWidths RX4 wsX4_differentBarWidths 3 rm_X4_differentBarWidths) {r : Int32} (hR : kRI g (WC cI cS ad) 3 cX4_differentBarWidths .int C r) (N : Nat)   (k43_1 : Int32 → Option (Int32)) (hk43_1 : ∀ (x1 : Int32), k43_1 x1 = some r → J g (WC cI cS ad) 3 C 43 [some (.ref (ad 119)), some (.int x1), none] []) : ∀ (n : Nat) (x3 : Int32) (x4 : Int32), lp_X4_differentBarWidths_4 N C k43_1 n x3 x4 = some r → J g (WC cI cS ad) 3 C 4 [some (.ref (ad 119)), some (.int x3), some (.int x4)] [] := by
  intro n
  induction n with
  | zero =>
    intro x3 x4 hf
    rw [lp_X4_differentBarWidths_4] at hf
    cases hf
  | succ n ih =>
    intro x3 x4 hf
    rw [lp_X4_differentBarWidths_4] at hf
    refine j_iload_n (pc := 4) X dX4_differentBarWidths_4 rfl ?_
    refine j_aload_n (pc := 5) X dX4_differentBarWidths_5 rfl ?_
    refine j_get (pc := 6) X iw_X4_differentBarWidths_X4 (wc4 kd_119) rfl 0 (Nat.le_of_ble_eq_true rfl) lk_X4_differentBarWidths_0 (v := .ref (ad 4)) rfl dX4_differentBarWidths_6 ?_
    refine j_getN (pc := 9) X iw_X4_differentBarWidths_X5 (wc5 kd_4) rfl 0 (Nat.le_of_ble_eq_true rfl) (List.mem_of_getElem? (i := 7) rfl) (v := .ref (ad 5)) rfl dX4_differentBarWidths_9 ?_
    obtain ⟨r6, h5, hf⟩ := kB hf
    refine j_callI (pc := 12) X (c_X7_size N C 5 (kd5_1 kd_4 : kd 5 = 7) h5) gX4_differentBarWidths_X7_size rfl ⟨rfl, rfl⟩ rfl hd_X7_size ⟨(Nat.le_of_ble_eq_true rfl), (Nat.le_of_ble_eq_true rfl)⟩ (wc7 (kd5_1 kd_4 : kd 5 = 7)) rfl rfl rfl (Nat.le_of_ble_eq_true rfl) rfl dX4_differentBarWidths_12 ?_
    refine j_icmp_ge (tgt := 43) (pc := 15) X dX4_differentBarWidths_15 rfl (fun c7 => ?_) (fun c7 => ?_)
    · have hf := kT c7 hf
      refine j_weak (lv' := [some (.ref (ad 119)), some (.int x3), none]) (And.intro rfl (And.intro rfl trivial)) ?_
      exact hk43_1 _ hf
    · have hf := kF c7 hf
      refine j_aload_n (pc := 18) X dX4_differentBarWidths_18 rfl ?_
      refine j_iload_n (pc := 19) X dX4_differentBarWidths_19 rfl ?_
      obtain ⟨r9, h8, hf⟩ := kB hf
      refine j_callI (pc := 20) X (c_X4_isHidden N C x4 h8) gX4_differentBarWidths_X4_isHidden rfl ⟨rfl, rfl⟩ rfl hd_X4_isHidden ⟨(Nat.le_of_ble_eq_true rfl), (Nat.le_of_ble_eq_true rfl)⟩ (wc4 kd_119) rfl rfl rfl (Nat.le_of_ble_eq_true rfl) rfl dX4_differentBarWidths_20 ?_
      obtain ⟨j37_10, ej37_10, hf⟩ := jn_s hf
      have hj37_10 : ∀ (x10 : Int32), j37_10 x10 = some r → J g (WC cI cS ad) 3 C 37 [some (.ref (ad 119)), some (.int x10), some (.int x4)] [] := by
        intro x10 hf
        have hf := jE1 ej37_10 hf
        refine j_iinc (pc := 37) X dX4_differentBarWidths_37 rfl (v := x4 + 1) (by rw [kc_1]) (Nat.le_of_ble_eq_true rfl) (lv' := [some (.ref (ad 119)), some (.int x10), some (.int (x4 + 1))]) rfl ?_
        refine j_goto (tgt := 4) (pc := 40) X dX4_differentBarWidths_40 rfl ?_
        exact ih _ _ hf
      refine j_if_eq (tgt := 37) (pc := 23) X dX4_differentBarWidths_23 rfl (fun c12 => ?_) (fun c12 => ?_)
      · have hf := kT c12 hf
        exact hj37_10 _ hf
      · have hf := kF c12 hf
        refine j_aload_n (pc := 26) X dX4_differentBarWidths_26 rfl ?_
        refine j_iload_n (pc := 27) X dX4_differentBarWidths_27 rfl ?_
        obtain ⟨r14, h13, hf⟩ := kB hf
        refine j_callI (pc := 28) X (c_X4_hasBarAhead N C x4 h13) gX4_differentBarWidths_X4_hasBarAhead rfl ⟨rfl, rfl⟩ rfl hd_X4_hasBarAhead ⟨(Nat.le_of_ble_eq_true rfl), (Nat.le_of_ble_eq_true rfl)⟩ (wc4 kd_119) rfl rfl rfl (Nat.le_of_ble_eq_true rfl) rfl dX4_differentBarWidths_28 ?_
        refine j_if_ne (tgt := 37) (pc := 31) X dX4_differentBarWidths_31 rfl (fun c15 => ?_) (fun c15 => ?_)
        · have hf := kF c15 hf
          exact hj37_10 _ hf
        · have hf := kT c15 hf
          refine j_iinc (pc := 34) X dX4_differentBarWidths_34 rfl (v := x3 + 1) (by rw [kc_1]) (Nat.le_of_ble_eq_true rfl) (lv' := [some (.ref (ad 119)), some (.int (x3 + 1)), some (.int x4)]) rfl ?_
          exact hj37_10 _ hf
set_option maxHeartbeats 4000000 in
set_option maxRecDepth 100000 in
theorem t_X4_differentBarWidths {g : kG} {cI cS : ClassId} {ad : Nat → Nat} {C : kS} (X : Kx g cI cS cX4_differentBarWidths RX4 wsX4_differentBarWidths 3 rm_X4_differentBarWidths) {r : Int32} (hR : kRI g (WC cI cS ad) 3 cX4_differentBarWidths .int C r) (N : Nat)   (hf : f_X4_differentBarWidths N C = some r) : J g (WC cI cS ad) 3 C 0 [some (.ref (ad 119)), none, none] [] := by
  unfold f_X4_differentBarWidths at hf
  refine j_iconst (pc := 0) X dX4_differentBarWidths_0 kc_0 ?_
  refine j_istore_n (pc := 1) X dX4_differentBarWidths_1 (Nat.le_of_ble_eq_true rfl) (lv' := [some (.ref (ad 119)), some (.int 0), none]) rfl ?_
  refine j_iconst (pc := 2) X dX4_differentBarWidths_2 kc_0 ?_
  refine j_istore_n (pc := 3) X dX4_differentBarWidths_3 (Nat.le_of_ble_eq_true rfl) (lv' := [some (.ref (ad 119)), some (.int 0), some (.int 0)]) rfl ?_
  obtain ⟨k43_1, ek43_1, hf⟩ := jn_s hf
  have hk43_1 : ∀ (x1 : Int32), k43_1 x1 = some r → J g (WC cI cS ad) 3 C 43 [some (.ref (ad 119)), some (.int x1), none] [] := by
    intro x1 hf
    have hf := jE1 ek43_1 hf
    refine j_iload_n (pc := 43) X dX4_differentBarWidths_43 rfl ?_
    exact j_retI hR dX4_differentBarWidths_44 hf
  exact lt_X4_differentBarWidths_4 X hR N   k43_1 hk43_1 N _ _ hf
theorem c_X4_differentBarWidths {l : Launch} {D : va_G} {cI cS : ClassId} {ad : Nat → Nat} (N : Nat) (C : kS)  {r : Int32} (hf : f_X4_differentBarWidths N C = some r) : mI l yX4_differentBarWidths wsX4_differentBarWidths rm_X4_differentBarWidths D cI cS (WC cI cS ad) C [.ref (ad 119)] r :=
  mI.of (by decide) rfl rfl (Nat.le_of_ble_eq_true rfl) (fun g X hR => t_X4_differentBarWidths X  hR N   hf)
abbrev rm_X4_firstWordBehind : Room := { frames := 1, cells := 0, slots := 0, locals := 21 }
theorem lk_X4_firstWordBehind_0 : Cond.fieldLink RX4 43 "BlackBars$Sheet" "lines" "I" ∈ wsX4_firstWordBehind := List.mem_of_getElem? (i := 1) rfl
theorem iw_X4_firstWordBehind_X4 : ∀ w ∈ wsX40, w ∈ wsX4_firstWordBehind := fun _ h => List.mem_cons_of_mem _ (List.mem_append_left _ (List.mem_append_left _ (List.mem_append_left _ (List.mem_append_right _ h))))
theorem lk_X4_firstWordBehind_2 : Cond.fieldLink RX4 9 "BlackBars$Sheet" "state" "LBlackBars$State;" ∈ wsX4_firstWordBehind := List.mem_of_getElem? (i := 3) rfl
theorem iw_X4_firstWordBehind_X5 : ∀ w ∈ wsX50, w ∈ wsX4_firstWordBehind := fun _ h => List.mem_cons_of_mem _ (List.mem_append_left _ (List.mem_append_left _ (List.mem_append_right _ h)))
theorem lk_X4_firstWordBehind_1 : Cond.fieldLink RX4 40 "BlackBars$Sheet" "firstWords" "LBlackBars$Row;" ∈ wsX4_firstWordBehind := List.mem_of_getElem? (i := 2) rfl
theorem hd_X4_firstWordBehind : kHd yX4_firstWordBehind 1 := by decide +kernel
set_option maxHeartbeats 4000000 in
set_option maxRecDepth 100000 in
theorem t_X4_firstWordBehind {g : kG} {cI cS : ClassId} {ad : Nat → Nat} {C : kS} (X : Kx g cI cS cX4_firstWordBehind RX4 wsX4_firstWordBehind 2 rm_X4_firstWordBehind) {r : Int32} (hR : kRI g (WC cI cS ad) 2 cX4_firstWordBehind .int C r) (N : Nat) (a1 : Int32)  (hf : f_X4_firstWordBehind N C a1 = some r) : J g (WC cI cS ad) 2 C 0 [some (.ref (ad 119)), some (.int a1)] [] := by
  unfold f_X4_firstWordBehind at hf
  refine j_iload_n (pc := 0) X dX4_firstWordBehind_0 rfl ?_
  refine j_iconst (pc := 1) X dX4_firstWordBehind_1 kc_1 ?_
  refine j_iadd (pc := 2) X dX4_firstWordBehind_2 ?_
  refine j_aload_n (pc := 3) X dX4_firstWordBehind_3 rfl ?_
  refine j_get (pc := 4) X iw_X4_firstWordBehind_X4 (wc4 kd_119) rfl 8 (Nat.le_of_ble_eq_true rfl) lk_X4_firstWordBehind_0 (v := .int (C 119 8)) rfl dX4_firstWordBehind_4 ?_
  obtain ⟨j33_1, ej33_1, hf⟩ := jn_s hf
  have hj33_1 : ∀ (t1 : Int32), j33_1 t1 = some r → J g (WC cI cS ad) 2 C 33 [some (.ref (ad 119)), some (.int a1)] [.int t1] := by
    intro t1 hf
    have hf := jE1 ej33_1 hf
    exact j_retI hR dX4_firstWordBehind_33 hf
  refine j_icmp_ge (tgt := 23) (pc := 7) X dX4_firstWordBehind_7 rfl (fun c3 => ?_) (fun c3 => ?_)
  · have hf := kT c3 hf
    refine j_aload_n (pc := 23) X dX4_firstWordBehind_23 rfl ?_
    refine j_get (pc := 24) X iw_X4_firstWordBehind_X4 (wc4 kd_119) rfl 0 (Nat.le_of_ble_eq_true rfl) lk_X4_firstWordBehind_2 (v := .ref (ad 4)) rfl dX4_firstWordBehind_24 ?_
    refine j_getN (pc := 27) X iw_X4_firstWordBehind_X5 (wc5 kd_4) rfl 0 (Nat.le_of_ble_eq_true rfl) (List.mem_of_getElem? (i := 7) rfl) (v := .ref (ad 5)) rfl dX4_firstWordBehind_27 ?_
    obtain ⟨r5, h4, hf⟩ := kB hf
    refine j_callI (pc := 30) X (c_X7_size N C 5 (kd5_1 kd_4 : kd 5 = 7) h4) gX4_firstWordBehind_X7_size rfl ⟨rfl, rfl⟩ rfl hd_X7_size ⟨(Nat.le_of_ble_eq_true rfl), (Nat.le_of_ble_eq_true rfl)⟩ (wc7 (kd5_1 kd_4 : kd 5 = 7)) rfl rfl rfl (Nat.le_of_ble_eq_true rfl) rfl dX4_firstWordBehind_30 ?_
    exact hj33_1 _ hf
  · have hf := kF c3 hf
    refine j_aload_n (pc := 10) X dX4_firstWordBehind_10 rfl ?_
    refine j_get (pc := 11) X iw_X4_firstWordBehind_X4 (wc4 kd_119) rfl 7 (Nat.le_of_ble_eq_true rfl) lk_X4_firstWordBehind_1 (v := .ref (ad 130)) rfl dX4_firstWordBehind_11 ?_
    refine j_iload_n (pc := 14) X dX4_firstWordBehind_14 rfl ?_
    refine j_iconst (pc := 15) X dX4_firstWordBehind_15 kc_1 ?_
    refine j_iadd (pc := 16) X dX4_firstWordBehind_16 ?_
    obtain ⟨r7, h6, hf⟩ := kB hf
    refine j_callI (pc := 17) X (c_X3_at N C 130 kd_130 (a1 + 1) h6) gX4_firstWordBehind_X3_at rfl ⟨rfl, rfl⟩ rfl hd_X3_at ⟨(Nat.le_of_ble_eq_true rfl), (Nat.le_of_ble_eq_true rfl)⟩ (wc3 kd_130) rfl rfl rfl (Nat.le_of_ble_eq_true rfl) rfl dX4_firstWordBehind_17 ?_
    refine j_goto (tgt := 33) (pc := 20) X dX4_firstWordBehind_20 rfl ?_
    exact hj33_1 _ hf
theorem c_X4_firstWordBehind {l : Launch} {D : va_G} {cI cS : ClassId} {ad : Nat → Nat} (N : Nat) (C : kS) (a1 : Int32) {r : Int32} (hf : f_X4_firstWordBehind N C a1 = some r) : mI l yX4_firstWordBehind wsX4_firstWordBehind rm_X4_firstWordBehind D cI cS (WC cI cS ad) C [.ref (ad 119), .int a1] r :=
  mI.of (by decide) rfl rfl (Nat.le_of_ble_eq_true rfl) (fun g X hR => t_X4_firstWordBehind X  hR N a1  hf)
abbrev rm_X4_firstWordOf : Room := { frames := 1, cells := 0, slots := 0, locals := 21 }
theorem lk_X4_firstWordOf_0 : Cond.fieldLink RX4 40 "BlackBars$Sheet" "firstWords" "LBlackBars$Row;" ∈ wsX4_firstWordOf := List.mem_of_getElem? (i := 1) rfl
theorem iw_X4_firstWordOf_X4 : ∀ w ∈ wsX40, w ∈ wsX4_firstWordOf := fun _ h => List.mem_cons_of_mem _ (List.mem_append_left _ (List.mem_append_right _ h))
theorem hd_X4_firstWordOf : kHd yX4_firstWordOf 1 := by decide +kernel
set_option maxHeartbeats 4000000 in
set_option maxRecDepth 100000 in
theorem t_X4_firstWordOf {g : kG} {cI cS : ClassId} {ad : Nat → Nat} {C : kS} (X : Kx g cI cS cX4_firstWordOf RX4 wsX4_firstWordOf 2 rm_X4_firstWordOf) {r : Int32} (hR : kRI g (WC cI cS ad) 2 cX4_firstWordOf .int C r) (N : Nat) (a1 : Int32)  (hf : f_X4_firstWordOf N C a1 = some r) : J g (WC cI cS ad) 2 C 0 [some (.ref (ad 119)), some (.int a1)] [] := by
  unfold f_X4_firstWordOf at hf
  refine j_aload_n (pc := 0) X dX4_firstWordOf_0 rfl ?_
  refine j_get (pc := 1) X iw_X4_firstWordOf_X4 (wc4 kd_119) rfl 7 (Nat.le_of_ble_eq_true rfl) lk_X4_firstWordOf_0 (v := .ref (ad 130)) rfl dX4_firstWordOf_1 ?_
  refine j_iload_n (pc := 4) X dX4_firstWordOf_4 rfl ?_
  obtain ⟨r2, h1, hf⟩ := kB hf
  refine j_callI (pc := 5) X (c_X3_at N C 130 kd_130 a1 h1) gX4_firstWordOf_X3_at rfl ⟨rfl, rfl⟩ rfl hd_X3_at ⟨(Nat.le_of_ble_eq_true rfl), (Nat.le_of_ble_eq_true rfl)⟩ (wc3 kd_130) rfl rfl rfl (Nat.le_of_ble_eq_true rfl) rfl dX4_firstWordOf_5 ?_
  exact j_retI hR dX4_firstWordOf_8 hf
theorem c_X4_firstWordOf {l : Launch} {D : va_G} {cI cS : ClassId} {ad : Nat → Nat} (N : Nat) (C : kS) (a1 : Int32) {r : Int32} (hf : f_X4_firstWordOf N C a1 = some r) : mI l yX4_firstWordOf wsX4_firstWordOf rm_X4_firstWordOf D cI cS (WC cI cS ad) C [.ref (ad 119), .int a1] r :=
  mI.of (by decide) rfl rfl (Nat.le_of_ble_eq_true rfl) (fun g X hR => t_X4_firstWordOf X  hR N a1  hf)
abbrev rm_X4_ownWidthOf : Room := { frames := 1, cells := 0, slots := 0, locals := 21 }
theorem lk_X4_ownWidthOf_0 : Cond.fieldLink RX4 28 "BlackBars$Sheet" "ownWidths" "LBlackBars$Row;" ∈ wsX4_ownWidthOf := List.mem_of_getElem? (i := 1) rfl
theorem iw_X4_ownWidthOf_X4 : ∀ w ∈ wsX40, w ∈ wsX4_ownWidthOf := fun _ h => List.mem_cons_of_mem _ (List.mem_append_left _ (List.mem_append_right _ h))
theorem hd_X4_ownWidthOf : kHd yX4_ownWidthOf 1 := by decide +kernel
set_option maxHeartbeats 4000000 in
set_option maxRecDepth 100000 in
theorem t_X4_ownWidthOf {g : kG} {cI cS : ClassId} {ad : Nat → Nat} {C : kS} (X : Kx g cI cS cX4_ownWidthOf RX4 wsX4_ownWidthOf 2 rm_X4_ownWidthOf) {r : Int32} (hR : kRI g (WC cI cS ad) 2 cX4_ownWidthOf .int C r) (N : Nat) (a1 : Int32)  (hf : f_X4_ownWidthOf N C a1 = some r) : J g (WC cI cS ad) 2 C 0 [some (.ref (ad 119)), some (.int a1)] [] := by
  unfold f_X4_ownWidthOf at hf
  refine j_aload_n (pc := 0) X dX4_ownWidthOf_0 rfl ?_
  refine j_get (pc := 1) X iw_X4_ownWidthOf_X4 (wc4 kd_119) rfl 3 (Nat.le_of_ble_eq_true rfl) lk_X4_ownWidthOf_0 (v := .ref (ad 122)) rfl dX4_ownWidthOf_1 ?_
  refine j_iload_n (pc := 4) X dX4_ownWidthOf_4 rfl ?_
  obtain ⟨r2, h1, hf⟩ := kB hf
  refine j_callI (pc := 5) X (c_X3_at N C 122 kd_122 a1 h1) gX4_ownWidthOf_X3_at rfl ⟨rfl, rfl⟩ rfl hd_X3_at ⟨(Nat.le_of_ble_eq_true rfl), (Nat.le_of_ble_eq_true rfl)⟩ (wc3 kd_122) rfl rfl rfl (Nat.le_of_ble_eq_true rfl) rfl dX4_ownWidthOf_5 ?_
  exact j_retI hR dX4_ownWidthOf_8 hf
theorem c_X4_ownWidthOf {l : Launch} {D : va_G} {cI cS : ClassId} {ad : Nat → Nat} (N : Nat) (C : kS) (a1 : Int32) {r : Int32} (hf : f_X4_ownWidthOf N C a1 = some r) : mI l yX4_ownWidthOf wsX4_ownWidthOf rm_X4_ownWidthOf D cI cS (WC cI cS ad) C [.ref (ad 119), .int a1] r :=
  mI.of (by decide) rfl rfl (Nat.le_of_ble_eq_true rfl) (fun g X hR => t_X4_ownWidthOf X  hR N a1  hf)
abbrev rm_X4_widthUnder : Room := { frames := 2, cells := 0, slots := 0, locals := 42 }
theorem hd_X4_widthUnder : kHd yX4_widthUnder 2 := by decide +kernel
set_option maxHeartbeats 4000000 in
set_option maxRecDepth 100000 in
theorem t_X4_widthUnder {g : kG} {cI cS : ClassId} {ad : Nat → Nat} {C : kS} (X : Kx g cI cS cX4_widthUnder RX4 wsX4_widthUnder 3 rm_X4_widthUnder) {r : Int32} (hR : kRI g (WC cI cS ad) 3 cX4_widthUnder .int C r) (N : Nat) (k1 : Nat) (a2 : Int32) (hk1 : kd k1 = 0) (hf : f_X4_widthUnder N C k1 a2 = some r) : J g (WC cI cS ad) 3 C 0 [some (.ref (ad 119)), some (.ref (ad k1)), some (.int a2)] [] := by
  unfold f_X4_widthUnder at hf
  refine j_aload_n (pc := 0) X dX4_widthUnder_0 rfl ?_
  refine j_iload_n (pc := 1) X dX4_widthUnder_1 rfl ?_
  obtain ⟨r2, h1, hf⟩ := kB hf
  refine j_callI (pc := 2) X (c_X4_isHidden N C a2 h1) gX4_widthUnder_X4_isHidden rfl ⟨rfl, rfl⟩ rfl hd_X4_isHidden ⟨(Nat.le_of_ble_eq_true rfl), (Nat.le_of_ble_eq_true rfl)⟩ (wc4 kd_119) rfl rfl rfl (Nat.le_of_ble_eq_true rfl) rfl dX4_widthUnder_2 ?_
  obtain ⟨j25_3, ej25_3, hf⟩ := jn_s hf
  have hj25_3 : ∀ (t3 : Int32), j25_3 t3 = some r → J g (WC cI cS ad) 3 C 25 [some (.ref (ad 119)), some (.ref (ad k1)), some (.int a2)] [.int t3] := by
    intro t3 hf
    have hf := jE1 ej25_3 hf
    exact j_retI hR dX4_widthUnder_25 hf
  refine j_if_eq (tgt := 20) (pc := 5) X dX4_widthUnder_5 rfl (fun c5 => ?_) (fun c5 => ?_)
  · have hf := kT c5 hf
    refine j_aload_n (pc := 20) X dX4_widthUnder_20 rfl ?_
    refine j_iload_n (pc := 21) X dX4_widthUnder_21 rfl ?_
    obtain ⟨r7, h6, hf⟩ := kB hf
    refine j_callI (pc := 22) X (c_X4_ownWidthOf N C a2 h6) gX4_widthUnder_X4_ownWidthOf rfl ⟨rfl, rfl⟩ rfl hd_X4_ownWidthOf ⟨(Nat.le_of_ble_eq_true rfl), (Nat.le_of_ble_eq_true rfl)⟩ (wc4 kd_119) rfl rfl rfl (Nat.le_of_ble_eq_true rfl) rfl dX4_widthUnder_22 ?_
    exact hj25_3 _ hf
  · have hf := kF c5 hf
    refine j_aload_n (pc := 8) X dX4_widthUnder_8 rfl ?_
    refine j_aload_n (pc := 9) X dX4_widthUnder_9 rfl ?_
    refine j_iload_n (pc := 10) X dX4_widthUnder_10 rfl ?_
    obtain ⟨r9, h8, hf⟩ := kB hf
    refine j_callI (pc := 11) X (c_X4_formOf N C a2 h8) gX4_widthUnder_X4_formOf rfl ⟨rfl, rfl⟩ rfl hd_X4_formOf ⟨(Nat.le_of_ble_eq_true rfl), (Nat.le_of_ble_eq_true rfl)⟩ (wc4 kd_119) rfl rfl rfl (Nat.le_of_ble_eq_true rfl) rfl dX4_widthUnder_11 ?_
    obtain ⟨r11, h10, hf⟩ := kB hf
    refine j_callI (pc := 14) X (c_X0_widthOf N C k1 hk1 r9 h10) gX4_widthUnder_X0_widthOf rfl ⟨rfl, rfl⟩ rfl hd_X0_widthOf ⟨(Nat.le_of_ble_eq_true rfl), (Nat.le_of_ble_eq_true rfl)⟩ (wc0 hk1) rfl rfl rfl (Nat.le_of_ble_eq_true rfl) rfl dX4_widthUnder_14 ?_
    refine j_goto (tgt := 25) (pc := 17) X dX4_widthUnder_17 rfl ?_
    exact hj25_3 _ hf
theorem c_X4_widthUnder {l : Launch} {D : va_G} {cI cS : ClassId} {ad : Nat → Nat} (N : Nat) (C : kS) (k1 : Nat) (hk1 : kd k1 = 0) (a2 : Int32) {r : Int32} (hf : f_X4_widthUnder N C k1 a2 = some r) : mI l yX4_widthUnder wsX4_widthUnder rm_X4_widthUnder D cI cS (WC cI cS ad) C [.ref (ad 119), .ref (ad k1), .int a2] r :=
  mI.of (by decide) rfl rfl (Nat.le_of_ble_eq_true rfl) (fun g X hR => t_X4_widthUnder X  hR N k1 a2 hk1 hf)
abbrev rm_X4_flow : Room := { frames := 3, cells := 0, slots := 0, locals := 64 }
theorem lk_X4_flow_0 : Cond.fieldLink RX4 9 "BlackBars$Sheet" "state" "LBlackBars$State;" ∈ wsX4_flow := List.mem_of_getElem? (i := 1) rfl
theorem iw_X4_flow_X4 : ∀ w ∈ wsX40, w ∈ wsX4_flow := fun _ h => List.mem_cons_of_mem _ (List.mem_append_left _ (List.mem_append_left _ (List.mem_append_left _ (List.mem_append_left _ (List.mem_append_right _ h)))))
theorem iw_X4_flow_X5 : ∀ w ∈ wsX50, w ∈ wsX4_flow := fun _ h => List.mem_cons_of_mem _ (List.mem_append_left _ (List.mem_append_left _ (List.mem_append_left _ (List.mem_append_right _ h))))
theorem lk_X4_flow_1 : Cond.fieldLink RX4 43 "BlackBars$Sheet" "lines" "I" ∈ wsX4_flow := List.mem_of_getElem? (i := 2) rfl
theorem lk_X4_flow_3 : Cond.fieldLink RX4 31 "BlackBars$Sheet" "shownWidths" "LBlackBars$Row;" ∈ wsX4_flow := List.mem_of_getElem? (i := 4) rfl
theorem lk_X4_flow_4 : Cond.fieldLink RX4 34 "BlackBars$Sheet" "linesOfWords" "LBlackBars$Row;" ∈ wsX4_flow := List.mem_of_getElem? (i := 5) rfl
theorem lk_X4_flow_5 : Cond.fieldLink RX4 37 "BlackBars$Sheet" "places" "LBlackBars$Row;" ∈ wsX4_flow := List.mem_of_getElem? (i := 6) rfl
theorem lk_X4_flow_2 : Cond.fieldLink RX4 40 "BlackBars$Sheet" "firstWords" "LBlackBars$Row;" ∈ wsX4_flow := List.mem_of_getElem? (i := 3) rfl
theorem hd_X4_flow : kHd yX4_flow 1 := by decide +kernel
set_option maxHeartbeats 4000000 in
set_option maxRecDepth 100000 in
theorem lt_X4_flow_35 {g : kG} {cI cS : ClassId} {ad : Nat → Nat} (X : Kx g cI cS cX4_flow RX4 wsX4_flow 8 rm_X4_flow) {Cr : kS} (hI : kInj 132 ad) (Y : Kw g (WC cI cS ad) (kAd 132 ad)) (hR : kRV g (WC cI cS ad) 8 cX4_flow Cr) (N : Nat) (k1 : Nat) (r2 : Int32) (r4 : Int32) (hk1 : kd k1 = 0) (k157_6 : kS → Option (kS)) (hk157_6 : ∀ (C6 : kS), k157_6 C6 = some Cr → J g (WC cI cS ad) 8 C6 157 [some (.ref (ad 119)), some (.ref (ad k1)), some (.int r2), some (.int r4), none, none, none, none] []) : ∀ (n : Nat) (x8 : Int32) (x9 : Int32) (C10 : kS), lp_X4_flow_35 N k1 r2 r4 k157_6 n x8 x9 C10 = some Cr → J g (WC cI cS ad) 8 C10 35 [some (.ref (ad 119)), some (.ref (ad k1)), some (.int r2), some (.int r4), some (.int x8), some (.int x9), none, none] [] := by
  intro n
  induction n with
  | zero =>
    intro x8 x9 C10 hf
    rw [lp_X4_flow_35] at hf
    cases hf
  | succ n ih =>
    intro x8 x9 C10 hf
    rw [lp_X4_flow_35] at hf
    refine j_iload (pc := 35) X dX4_flow_35 rfl ?_
    refine j_aload_n (pc := 37) X dX4_flow_37 rfl ?_
    refine j_get (pc := 38) X iw_X4_flow_X4 (wc4 kd_119) rfl 0 (Nat.le_of_ble_eq_true rfl) lk_X4_flow_0 (v := .ref (ad 4)) rfl dX4_flow_38 ?_
    refine j_getN (pc := 41) X iw_X4_flow_X5 (wc5 kd_4) rfl 0 (Nat.le_of_ble_eq_true rfl) (List.mem_of_getElem? (i := 7) rfl) (v := .ref (ad 5)) rfl dX4_flow_41 ?_
    obtain ⟨r12, h11, hf⟩ := kB hf
    refine j_callI (pc := 44) X (c_X7_size N C10 5 (kd5_1 kd_4 : kd 5 = 7) h11) gX4_flow_X7_size rfl ⟨rfl, rfl⟩ rfl hd_X7_size ⟨(Nat.le_of_ble_eq_true rfl), (Nat.le_of_ble_eq_true rfl)⟩ (wc7 (kd5_1 kd_4 : kd 5 = 7)) rfl rfl rfl (Nat.le_of_ble_eq_true rfl) rfl dX4_flow_44 ?_
    refine j_icmp_ge (tgt := 157) (pc := 47) X dX4_flow_47 rfl (fun c13 => ?_) (fun c13 => ?_)
    · have hf := kT c13 hf
      refine j_weak (lv' := [some (.ref (ad 119)), some (.ref (ad k1)), some (.int r2), some (.int r4), none, none, none, none]) (And.intro rfl (And.intro rfl (And.intro rfl (And.intro rfl trivial)))) ?_
      exact hk157_6 _ hf
    · have hf := kF c13 hf
      refine j_aload_n (pc := 50) X dX4_flow_50 rfl ?_
      refine j_aload_n (pc := 51) X dX4_flow_51 rfl ?_
      refine j_iload (pc := 52) X dX4_flow_52 rfl ?_
      obtain ⟨r15, h14, hf⟩ := kB hf
      refine j_callI (pc := 54) X (c_X4_widthUnder N C10 k1 hk1 x9 h14) gX4_flow_X4_widthUnder rfl ⟨rfl, rfl⟩ rfl hd_X4_widthUnder ⟨(Nat.le_of_ble_eq_true rfl), (Nat.le_of_ble_eq_true rfl)⟩ (wc4 kd_119) rfl rfl rfl (Nat.le_of_ble_eq_true rfl) rfl dX4_flow_54 ?_
      refine j_istore (pc := 57) X dX4_flow_57 (Nat.le_of_ble_eq_true rfl) (lv' := [some (.ref (ad 119)), some (.ref (ad k1)), some (.int r2), some (.int r4), some (.int x8), some (.int x9), some (.int r15), none]) rfl ?_
      refine j_iload (pc := 59) X dX4_flow_59 rfl ?_
      refine j_iload_n (pc := 61) X dX4_flow_61 rfl ?_
      refine j_iadd (pc := 62) X dX4_flow_62 ?_
      refine j_istore (pc := 63) X dX4_flow_63 (Nat.le_of_ble_eq_true rfl) (lv' := [some (.ref (ad 119)), some (.ref (ad k1)), some (.int r2), some (.int r4), some (.int x8), some (.int x9), some (.int r15), some (.int (x8 + r2))]) rfl ?_
      refine j_aload_n (pc := 65) X dX4_flow_65 rfl ?_
      refine j_get (pc := 66) X iw_X4_flow_X4 (wc4 kd_119) rfl 8 (Nat.le_of_ble_eq_true rfl) lk_X4_flow_1 (v := .int (C10 119 8)) rfl dX4_flow_66 ?_
      obtain ⟨j107_17, ej107_17, hf⟩ := jn_s hf
      have hj107_17 : ∀ (x16 : Int32) (C17 : kS), j107_17 x16 C17 = some Cr → J g (WC cI cS ad) 8 C17 107 [some (.ref (ad 119)), some (.ref (ad k1)), some (.int r2), some (.int r4), some (.int x8), some (.int x9), some (.int r15), some (.int x16)] [] := by
        intro x16 C17 hf
        have hf := jE2 ej107_17 hf
        refine j_iload (pc := 107) X dX4_flow_107 rfl ?_
        refine j_iload (pc := 109) X dX4_flow_109 rfl ?_
        refine j_iadd (pc := 111) X dX4_flow_111 ?_
        refine j_istore (pc := 112) X dX4_flow_112 (Nat.le_of_ble_eq_true rfl) (lv' := [some (.ref (ad 119)), some (.ref (ad k1)), some (.int r2), some (.int r4), some (.int (x16 + r15)), some (.int x9), some (.int r15), some (.int x16)]) rfl ?_
        refine j_aload_n (pc := 114) X dX4_flow_114 rfl ?_
        refine j_get (pc := 115) X iw_X4_flow_X4 (wc4 kd_119) rfl 4 (Nat.le_of_ble_eq_true rfl) lk_X4_flow_3 (v := .ref (ad 124)) rfl dX4_flow_115 ?_
        refine j_iload (pc := 118) X dX4_flow_118 rfl ?_
        refine j_iload (pc := 120) X dX4_flow_120 rfl ?_
        obtain ⟨C20, h19, hf⟩ := kB hf
        refine j_callV (pc := 122) X Y (c_X3_put hI N C17 124 kd_124 x9 r15 h19) gX4_flow_X3_put rfl ⟨rfl, rfl⟩ rfl hd_X3_put ⟨(Nat.le_of_ble_eq_true rfl), (Nat.le_of_ble_eq_true rfl)⟩ (wc3 kd_124) rfl rfl rfl (Nat.le_of_ble_eq_true rfl) rfl dX4_flow_122 ?_
        refine j_aload_n (pc := 125) X dX4_flow_125 rfl ?_
        refine j_get (pc := 126) X iw_X4_flow_X4 (wc4 kd_119) rfl 5 (Nat.le_of_ble_eq_true rfl) lk_X4_flow_4 (v := .ref (ad 126)) rfl dX4_flow_126 ?_
        refine j_iload (pc := 129) X dX4_flow_129 rfl ?_
        refine j_aload_n (pc := 131) X dX4_flow_131 rfl ?_
        refine j_get (pc := 132) X iw_X4_flow_X4 (wc4 kd_119) rfl 8 (Nat.le_of_ble_eq_true rfl) lk_X4_flow_1 (v := .int (C20 119 8)) rfl dX4_flow_132 ?_
        refine j_iconst (pc := 135) X dX4_flow_135 kc_1 ?_
        refine j_isub (pc := 136) X dX4_flow_136 ?_
        obtain ⟨C22, h21, hf⟩ := kB hf
        refine j_callV (pc := 137) X Y (c_X3_put hI N C20 126 kd_126 x9 ((C20 119 8) - 1) h21) gX4_flow_X3_put rfl ⟨rfl, rfl⟩ rfl hd_X3_put ⟨(Nat.le_of_ble_eq_true rfl), (Nat.le_of_ble_eq_true rfl)⟩ (wc3 kd_126) rfl rfl rfl (Nat.le_of_ble_eq_true rfl) rfl dX4_flow_137 ?_
        refine j_aload_n (pc := 140) X dX4_flow_140 rfl ?_
        refine j_get (pc := 141) X iw_X4_flow_X4 (wc4 kd_119) rfl 6 (Nat.le_of_ble_eq_true rfl) lk_X4_flow_5 (v := .ref (ad 128)) rfl dX4_flow_141 ?_
        refine j_iload (pc := 144) X dX4_flow_144 rfl ?_
        refine j_iload (pc := 146) X dX4_flow_146 rfl ?_
        obtain ⟨C24, h23, hf⟩ := kB hf
        refine j_callV (pc := 148) X Y (c_X3_put hI N C22 128 kd_128 x9 x16 h23) gX4_flow_X3_put rfl ⟨rfl, rfl⟩ rfl hd_X3_put ⟨(Nat.le_of_ble_eq_true rfl), (Nat.le_of_ble_eq_true rfl)⟩ (wc3 kd_128) rfl rfl rfl (Nat.le_of_ble_eq_true rfl) rfl dX4_flow_148 ?_
        refine j_iinc (pc := 151) X dX4_flow_151 rfl (v := x9 + 1) (by rw [kc_1]) (Nat.le_of_ble_eq_true rfl) (lv' := [some (.ref (ad 119)), some (.ref (ad k1)), some (.int r2), some (.int r4), some (.int (x16 + r15)), some (.int (x9 + 1)), some (.int r15), some (.int x16)]) rfl ?_
        refine j_goto (tgt := 35) (pc := 154) X dX4_flow_154 rfl ?_
        refine j_weak (lv' := [some (.ref (ad 119)), some (.ref (ad k1)), some (.int r2), some (.int r4), some (.int (x16 + r15)), some (.int (x9 + 1)), none, none]) (And.intro rfl (And.intro rfl (And.intro rfl (And.intro rfl (And.intro rfl (And.intro rfl trivial)))))) ?_
        exact ih _ _ _ hf
      obtain ⟨j81_24, ej81_24, hf⟩ := jn_s hf
      have hj81_24 : ∀ (_ : Unit), j81_24 = some Cr → J g (WC cI cS ad) 8 C10 81 [some (.ref (ad 119)), some (.ref (ad k1)), some (.int r2), some (.int r4), some (.int x8), some (.int x9), some (.int r15), some (.int (x8 + r2))] [] := by
        intro _ hf
        have hf := jE0 ej81_24 hf
        refine j_aload_n (pc := 81) X dX4_flow_81 rfl ?_
        refine j_get (pc := 82) X iw_X4_flow_X4 (wc4 kd_119) rfl 7 (Nat.le_of_ble_eq_true rfl) lk_X4_flow_2 (v := .ref (ad 130)) rfl dX4_flow_82 ?_
        refine j_aload_n (pc := 85) X dX4_flow_85 rfl ?_
        refine j_get (pc := 86) X iw_X4_flow_X4 (wc4 kd_119) rfl 8 (Nat.le_of_ble_eq_true rfl) lk_X4_flow_1 (v := .int (C10 119 8)) rfl dX4_flow_86 ?_
        refine j_iload (pc := 89) X dX4_flow_89 rfl ?_
        obtain ⟨C27, h26, hf⟩ := kB hf
        refine j_callV (pc := 91) X Y (c_X3_put hI N C10 130 kd_130 (C10 119 8) x9 h26) gX4_flow_X3_put rfl ⟨rfl, rfl⟩ rfl hd_X3_put ⟨(Nat.le_of_ble_eq_true rfl), (Nat.le_of_ble_eq_true rfl)⟩ (wc3 kd_130) rfl rfl rfl (Nat.le_of_ble_eq_true rfl) rfl dX4_flow_91 ?_
        refine j_aload_n (pc := 94) X dX4_flow_94 rfl ?_
        refine j_dup (pc := 95) X dX4_flow_95 rfl ?_
        refine j_get (pc := 96) X iw_X4_flow_X4 (wc4 kd_119) rfl 8 (Nat.le_of_ble_eq_true rfl) lk_X4_flow_1 (v := .int (C27 119 8)) rfl dX4_flow_96 ?_
        refine j_iconst (pc := 99) X dX4_flow_99 kc_1 ?_
        refine j_iadd (pc := 100) X dX4_flow_100 ?_
        obtain ⟨C28, eC28, hf⟩ := jn_s hf
        refine j_put (C' := C28) (pc := 101) X Y iw_X4_flow_X4 tyX4 tyX4_ok nmX4 (wc4 kd_119) rfl 8 (Nat.le_of_ble_eq_true rfl) lk_X4_flow_1 rfl (tyX4_ok 8 (Nat.le_of_ble_eq_true rfl)) (Nat.le_of_ble_eq_true rfl) dX4_flow_101 (by rw [eC28]; exact sc4_8 kd_119 _) ?_
        refine j_iconst (pc := 104) X dX4_flow_104 kc_0 ?_
        refine j_istore (pc := 105) X dX4_flow_105 (Nat.le_of_ble_eq_true rfl) (lv' := [some (.ref (ad 119)), some (.ref (ad k1)), some (.int r2), some (.int r4), some (.int x8), some (.int x9), some (.int r15), some (.int 0)]) rfl ?_
        exact hj107_17 _ _ hf
      refine j_if_eq (tgt := 81) (pc := 69) X dX4_flow_69 rfl (fun c29 => ?_) (fun c29 => ?_)
      · have hf := kT c29 hf
        exact hj81_24 () hf
      · have hf := kF c29 hf
        refine j_iload (pc := 72) X dX4_flow_72 rfl ?_
        refine j_iload (pc := 74) X dX4_flow_74 rfl ?_
        refine j_iadd (pc := 76) X dX4_flow_76 ?_
        refine j_iload_n (pc := 77) X dX4_flow_77 rfl ?_
        refine j_icmp_le (tgt := 107) (pc := 78) X dX4_flow_78 rfl (fun c30 => ?_) (fun c30 => ?_)
        · have hf := kT c30 hf
          exact hj107_17 _ _ hf
        · have hf := kF c30 hf
          exact hj81_24 () hf
set_option maxHeartbeats 4000000 in
set_option maxRecDepth 100000 in
theorem t_X4_flow {g : kG} {cI cS : ClassId} {ad : Nat → Nat} (X : Kx g cI cS cX4_flow RX4 wsX4_flow 8 rm_X4_flow) {Cr : kS} (hI : kInj 132 ad) (Y : Kw g (WC cI cS ad) (kAd 132 ad)) (hR : kRV g (WC cI cS ad) 8 cX4_flow Cr) (N : Nat) (C : kS) (k1 : Nat) (hk1 : kd k1 = 0) (hf : f_X4_flow N C k1 = some Cr) : J g (WC cI cS ad) 8 C 0 [some (.ref (ad 119)), some (.ref (ad k1)), none, none, none, none, none, none] [] := by
  unfold f_X4_flow at hf
  refine j_aload_n (pc := 0) X dX4_flow_0 rfl ?_
  refine j_get (pc := 1) X iw_X4_flow_X4 (wc4 kd_119) rfl 0 (Nat.le_of_ble_eq_true rfl) lk_X4_flow_0 (v := .ref (ad 4)) rfl dX4_flow_1 ?_
  refine j_getN (pc := 4) X iw_X4_flow_X5 (wc5 kd_4) rfl 4 (Nat.le_of_ble_eq_true rfl) (List.mem_of_getElem? (i := 9) rfl) (v := .ref (ad 22)) rfl dX4_flow_4 ?_
  refine j_iconst (pc := 7) X dX4_flow_7 kc_3 ?_
  obtain ⟨r2, h1, hf⟩ := kB hf
  refine j_callI (pc := 8) X (c_X3_at N C 22 (kd5_18 kd_4 : kd 22 = 3) 3 h1) gX4_flow_X3_at rfl ⟨rfl, rfl⟩ rfl hd_X3_at ⟨(Nat.le_of_ble_eq_true rfl), (Nat.le_of_ble_eq_true rfl)⟩ (wc3 (kd5_18 kd_4 : kd 22 = 3)) rfl rfl rfl (Nat.le_of_ble_eq_true rfl) rfl dX4_flow_8 ?_
  refine j_istore_n (pc := 11) X dX4_flow_11 (Nat.le_of_ble_eq_true rfl) (lv' := [some (.ref (ad 119)), some (.ref (ad k1)), some (.int r2), none, none, none, none, none]) rfl ?_
  refine j_aload_n (pc := 12) X dX4_flow_12 rfl ?_
  refine j_get (pc := 13) X iw_X4_flow_X4 (wc4 kd_119) rfl 0 (Nat.le_of_ble_eq_true rfl) lk_X4_flow_0 (v := .ref (ad 4)) rfl dX4_flow_13 ?_
  refine j_getN (pc := 16) X iw_X4_flow_X5 (wc5 kd_4) rfl 4 (Nat.le_of_ble_eq_true rfl) (List.mem_of_getElem? (i := 9) rfl) (v := .ref (ad 22)) rfl dX4_flow_16 ?_
  refine j_iconst (pc := 19) X dX4_flow_19 kc_4 ?_
  obtain ⟨r4, h3, hf⟩ := kB hf
  refine j_callI (pc := 20) X (c_X3_at N C 22 (kd5_18 kd_4 : kd 22 = 3) 4 h3) gX4_flow_X3_at rfl ⟨rfl, rfl⟩ rfl hd_X3_at ⟨(Nat.le_of_ble_eq_true rfl), (Nat.le_of_ble_eq_true rfl)⟩ (wc3 (kd5_18 kd_4 : kd 22 = 3)) rfl rfl rfl (Nat.le_of_ble_eq_true rfl) rfl dX4_flow_20 ?_
  refine j_istore_n (pc := 23) X dX4_flow_23 (Nat.le_of_ble_eq_true rfl) (lv' := [some (.ref (ad 119)), some (.ref (ad k1)), some (.int r2), some (.int r4), none, none, none, none]) rfl ?_
  refine j_iconst (pc := 24) X dX4_flow_24 kc_0 ?_
  refine j_istore (pc := 25) X dX4_flow_25 (Nat.le_of_ble_eq_true rfl) (lv' := [some (.ref (ad 119)), some (.ref (ad k1)), some (.int r2), some (.int r4), some (.int 0), none, none, none]) rfl ?_
  refine j_aload_n (pc := 27) X dX4_flow_27 rfl ?_
  refine j_iconst (pc := 28) X dX4_flow_28 kc_0 ?_
  obtain ⟨C5, eC5, hf⟩ := jn_s hf
  refine j_put (C' := C5) (pc := 29) X Y iw_X4_flow_X4 tyX4 tyX4_ok nmX4 (wc4 kd_119) rfl 8 (Nat.le_of_ble_eq_true rfl) lk_X4_flow_1 rfl (tyX4_ok 8 (Nat.le_of_ble_eq_true rfl)) (Nat.le_of_ble_eq_true rfl) dX4_flow_29 (by rw [eC5]; exact sc4_8 kd_119 _) ?_
  refine j_iconst (pc := 32) X dX4_flow_32 kc_0 ?_
  refine j_istore (pc := 33) X dX4_flow_33 (Nat.le_of_ble_eq_true rfl) (lv' := [some (.ref (ad 119)), some (.ref (ad k1)), some (.int r2), some (.int r4), some (.int 0), some (.int 0), none, none]) rfl ?_
  obtain ⟨k157_6, ek157_6, hf⟩ := jn_s hf
  have hk157_6 : ∀ (C6 : kS), k157_6 C6 = some Cr → J g (WC cI cS ad) 8 C6 157 [some (.ref (ad 119)), some (.ref (ad k1)), some (.int r2), some (.int r4), none, none, none, none] [] := by
    intro C6 hf
    have hf := jE1 ek157_6 hf
    exact j_retV hR dX4_flow_157 hf
  exact lt_X4_flow_35 X hI Y hR N k1 r2 r4 hk1   k157_6 hk157_6 N _ _ _ hf
theorem c_X4_flow {l : Launch} {D : va_G} {cI cS : ClassId} {ad : Nat → Nat} (hI : kInj 132 ad) (N : Nat) (C : kS) (k1 : Nat) (hk1 : kd k1 = 0) {Cr : kS} (hf : f_X4_flow N C k1 = some Cr) : mV l yX4_flow wsX4_flow rm_X4_flow D cI cS (WC cI cS ad) (kAd 132 ad) C [.ref (ad 119), .ref (ad k1)] Cr :=
  mV.of (by decide) rfl rfl (Nat.le_of_ble_eq_true rfl) (WC_D hI) (fun g X Y hR => t_X4_flow X hI Y hR N C k1 hk1 hf)
abbrev rm_X4_hasLine : Room := { frames := 0, cells := 0, slots := 0, locals := 0 }
theorem lk_X4_hasLine_0 : Cond.fieldLink RX4 43 "BlackBars$Sheet" "lines" "I" ∈ wsX4_hasLine := List.mem_of_getElem? (i := 1) rfl
theorem iw_X4_hasLine_X4 : ∀ w ∈ wsX40, w ∈ wsX4_hasLine := fun _ h => List.mem_cons_of_mem _ (List.mem_append_right _ h)
theorem hd_X4_hasLine : kHd yX4_hasLine 1 := by decide +kernel
set_option maxHeartbeats 4000000 in
set_option maxRecDepth 100000 in
theorem t_X4_hasLine {g : kG} {cI cS : ClassId} {ad : Nat → Nat} {C : kS} (X : Kx g cI cS cX4_hasLine RX4 wsX4_hasLine 2 rm_X4_hasLine) {r : Int32} (hR : kRI g (WC cI cS ad) 2 cX4_hasLine .boolean C r) (N : Nat) (a1 : Int32)  (hf : f_X4_hasLine N C a1 = some r) : J g (WC cI cS ad) 2 C 0 [some (.ref (ad 119)), some (.int a1)] [] := by
  unfold f_X4_hasLine at hf
  refine j_iload_n (pc := 0) X dX4_hasLine_0 rfl ?_
  obtain ⟨j17_1, ej17_1, hf⟩ := jn_s hf
  have hj17_1 : ∀ (t1 : Int32), j17_1 t1 = some r → J g (WC cI cS ad) 2 C 17 [some (.ref (ad 119)), some (.int a1)] [.int t1] := by
    intro t1 hf
    have hf := jE1 ej17_1 hf
    exact j_retB hR dX4_hasLine_17 hf
  refine j_if_lt (tgt := 16) (pc := 1) X dX4_hasLine_1 rfl (fun c3 => ?_) (fun c3 => ?_)
  · have hf := kT c3 hf
    refine j_iconst (pc := 16) X dX4_hasLine_16 kc_0 ?_
    exact hj17_1 _ hf
  · have hf := kF c3 hf
    refine j_iload_n (pc := 4) X dX4_hasLine_4 rfl ?_
    refine j_aload_n (pc := 5) X dX4_hasLine_5 rfl ?_
    refine j_get (pc := 6) X iw_X4_hasLine_X4 (wc4 kd_119) rfl 8 (Nat.le_of_ble_eq_true rfl) lk_X4_hasLine_0 (v := .int (C 119 8)) rfl dX4_hasLine_6 ?_
    refine j_icmp_ge (tgt := 16) (pc := 9) X dX4_hasLine_9 rfl (fun c4 => ?_) (fun c4 => ?_)
    · have hf := kT c4 hf
      refine j_iconst (pc := 16) X dX4_hasLine_16 kc_0 ?_
      exact hj17_1 _ hf
    · have hf := kF c4 hf
      refine j_iconst (pc := 12) X dX4_hasLine_12 kc_1 ?_
      refine j_goto (tgt := 17) (pc := 13) X dX4_hasLine_13 rfl ?_
      exact hj17_1 _ hf
theorem c_X4_hasLine {l : Launch} {D : va_G} {cI cS : ClassId} {ad : Nat → Nat} (N : Nat) (C : kS) (a1 : Int32) {r : Int32} (hf : f_X4_hasLine N C a1 = some r) : mI l yX4_hasLine wsX4_hasLine rm_X4_hasLine D cI cS (WC cI cS ad) C [.ref (ad 119), .int a1] r :=
  mI.of (by decide) rfl rfl (Nat.le_of_ble_eq_true rfl) (fun g X hR => t_X4_hasLine X  hR N a1  hf)
abbrev rm_X7_lengthOf : Room := { frames := 1, cells := 0, slots := 0, locals := 21 }
theorem lk_X7_lengthOf_0 : Cond.fieldLink RX7 25 "BlackBars$Words" "lengths" "LBlackBars$Row;" ∈ wsX7_lengthOf := List.mem_of_getElem? (i := 1) rfl
theorem iw_X7_lengthOf_X7 : ∀ w ∈ wsX70, w ∈ wsX7_lengthOf := fun _ h => List.mem_cons_of_mem _ (List.mem_append_left _ (List.mem_append_right _ h))
theorem hd_X7_lengthOf : kHd yX7_lengthOf 1 := by decide +kernel
set_option maxHeartbeats 4000000 in
set_option maxRecDepth 100000 in
theorem t_X7_lengthOf {g : kG} {cI cS : ClassId} {ad : Nat → Nat} {C : kS} (X : Kx g cI cS cX7_lengthOf RX7 wsX7_lengthOf 2 rm_X7_lengthOf) {r : Int32} (hR : kRI g (WC cI cS ad) 2 cX7_lengthOf .int C r) (N : Nat) (k : Nat) (a1 : Int32) (hk : kd k = 7) (hf : f_X7_lengthOf N C k a1 = some r) : J g (WC cI cS ad) 2 C 0 [some (.ref (ad k)), some (.int a1)] [] := by
  unfold f_X7_lengthOf at hf
  refine j_aload_n (pc := 0) X dX7_lengthOf_0 rfl ?_
  refine j_get (pc := 1) X iw_X7_lengthOf_X7 (wc7 hk) rfl 3 (Nat.le_of_ble_eq_true rfl) lk_X7_lengthOf_0 (v := .ref (ad (k + 3))) rfl dX7_lengthOf_1 ?_
  refine j_iload_n (pc := 4) X dX7_lengthOf_4 rfl ?_
  obtain ⟨r2, h1, hf⟩ := kB hf
  refine j_callI (pc := 5) X (c_X3_at N C (k + 3) (kd7_3 hk) a1 h1) gX7_lengthOf_X3_at rfl ⟨rfl, rfl⟩ rfl hd_X3_at ⟨(Nat.le_of_ble_eq_true rfl), (Nat.le_of_ble_eq_true rfl)⟩ (wc3 (kd7_3 hk)) rfl rfl rfl (Nat.le_of_ble_eq_true rfl) rfl dX7_lengthOf_5 ?_
  exact j_retI hR dX7_lengthOf_8 hf
theorem c_X7_lengthOf {l : Launch} {D : va_G} {cI cS : ClassId} {ad : Nat → Nat} (N : Nat) (C : kS) (k : Nat) (hk : kd k = 7) (a1 : Int32) {r : Int32} (hf : f_X7_lengthOf N C k a1 = some r) : mI l yX7_lengthOf wsX7_lengthOf rm_X7_lengthOf D cI cS (WC cI cS ad) C [.ref (ad k), .int a1] r :=
  mI.of (by decide) rfl rfl (Nat.le_of_ble_eq_true rfl) (fun g X hR => t_X7_lengthOf X  hR N k a1 hk hf)
abbrev rm_X7_letterOf : Room := { frames := 1, cells := 0, slots := 0, locals := 21 }
theorem lk_X7_letterOf_0 : Cond.fieldLink RX7 21 "BlackBars$Words" "letters" "LBlackBars$Row;" ∈ wsX7_letterOf := List.mem_of_getElem? (i := 1) rfl
theorem iw_X7_letterOf_X7 : ∀ w ∈ wsX70, w ∈ wsX7_letterOf := fun _ h => List.mem_cons_of_mem _ (List.mem_append_left _ (List.mem_append_right _ h))
theorem lk_X7_letterOf_1 : Cond.fieldLink RX7 13 "BlackBars$Words" "mostLetters" "I" ∈ wsX7_letterOf := List.mem_of_getElem? (i := 2) rfl
theorem hd_X7_letterOf : kHd yX7_letterOf 2 := by decide +kernel
set_option maxHeartbeats 4000000 in
set_option maxRecDepth 100000 in
theorem t_X7_letterOf {g : kG} {cI cS : ClassId} {ad : Nat → Nat} {C : kS} (X : Kx g cI cS cX7_letterOf RX7 wsX7_letterOf 3 rm_X7_letterOf) {r : Int32} (hR : kRI g (WC cI cS ad) 3 cX7_letterOf .int C r) (N : Nat) (k : Nat) (a1 : Int32) (a2 : Int32) (hk : kd k = 7) (hf : f_X7_letterOf N C k a1 a2 = some r) : J g (WC cI cS ad) 3 C 0 [some (.ref (ad k)), some (.int a1), some (.int a2)] [] := by
  unfold f_X7_letterOf at hf
  refine j_aload_n (pc := 0) X dX7_letterOf_0 rfl ?_
  refine j_get (pc := 1) X iw_X7_letterOf_X7 (wc7 hk) rfl 2 (Nat.le_of_ble_eq_true rfl) lk_X7_letterOf_0 (v := .ref (ad (k + 1))) rfl dX7_letterOf_1 ?_
  refine j_iload_n (pc := 4) X dX7_letterOf_4 rfl ?_
  refine j_aload_n (pc := 5) X dX7_letterOf_5 rfl ?_
  refine j_get (pc := 6) X iw_X7_letterOf_X7 (wc7 hk) rfl 1 (Nat.le_of_ble_eq_true rfl) lk_X7_letterOf_1 (v := .int (C k 1)) rfl dX7_letterOf_6 ?_
  refine j_imul (pc := 9) X dX7_letterOf_9 ?_
  refine j_iload_n (pc := 10) X dX7_letterOf_10 rfl ?_
  refine j_iadd (pc := 11) X dX7_letterOf_11 ?_
  obtain ⟨r2, h1, hf⟩ := kB hf
  refine j_callI (pc := 12) X (c_X3_at N C (k + 1) (kd7_1 hk) ((a1 * (C k 1)) + a2) h1) gX7_letterOf_X3_at rfl ⟨rfl, rfl⟩ rfl hd_X3_at ⟨(Nat.le_of_ble_eq_true rfl), (Nat.le_of_ble_eq_true rfl)⟩ (wc3 (kd7_1 hk)) rfl rfl rfl (Nat.le_of_ble_eq_true rfl) rfl dX7_letterOf_12 ?_
  exact j_retI hR dX7_letterOf_15 hf
theorem c_X7_letterOf {l : Launch} {D : va_G} {cI cS : ClassId} {ad : Nat → Nat} (N : Nat) (C : kS) (k : Nat) (hk : kd k = 7) (a1 : Int32) (a2 : Int32) {r : Int32} (hf : f_X7_letterOf N C k a1 a2 = some r) : mI l yX7_letterOf wsX7_letterOf rm_X7_letterOf D cI cS (WC cI cS ad) C [.ref (ad k), .int a1, .int a2] r :=
  mI.of (by decide) rfl rfl (Nat.le_of_ble_eq_true rfl) (fun g X hR => t_X7_letterOf X  hR N k a1 a2 hk hf)
abbrev rm_X5_isForm : Room := { frames := 2, cells := 0, slots := 0, locals := 43 }
theorem lk_X5_isForm_0 : Cond.fieldLink RX5 14 "BlackBars$State" "page" "LBlackBars$Words;" ∈ wsX5_isForm := List.mem_of_getElem? (i := 1) rfl
theorem iw_X5_isForm_X5 : ∀ w ∈ wsX50, w ∈ wsX5_isForm := fun _ h => List.mem_cons_of_mem _ (List.mem_append_left _ (List.mem_append_left _ (List.mem_append_right _ h)))
theorem lk_X5_isForm_1 : Cond.fieldLink RX5 20 "BlackBars$State" "names" "LBlackBars$Words;" ∈ wsX5_isForm := List.mem_of_getElem? (i := 2) rfl
theorem lk_X5_isForm_2 : Cond.fieldLink RX5 23 "BlackBars$State" "endings" "LBlackBars$Words;" ∈ wsX5_isForm := List.mem_of_getElem? (i := 3) rfl
theorem hd_X5_isForm : kHd yX5_isForm 3 := by decide +kernel
set_option maxHeartbeats 4000000 in
set_option maxRecDepth 100000 in
theorem lt_X5_isForm_41 {g : kG} {cI cS : ClassId} {ad : Nat → Nat} {C : kS} (X : Kx g cI cS cX5_isForm RX5 wsX5_isForm 8 rm_X5_isForm) {r : Int32} (hR : kRI g (WC cI cS ad) 8 cX5_isForm .boolean C r) (N : Nat) (a1 : Int32) (a2 : Int32) (a3 : Int32) (r2 : Int32) (r4 : Int32)  (k106_7 : Option (Int32)) (hk106_7 : ∀ (_ : Unit), k106_7 = some r → J g (WC cI cS ad) 8 C 106 [some (.ref (ad 4)), some (.int a1), some (.int a2), some (.int a3), some (.int r2), some (.int r4), none, none] []) : ∀ (n : Nat) (x9 : Int32), lp_X5_isForm_41 N C a1 a2 a3 r2 r4 k106_7 n x9 = some r → J g (WC cI cS ad) 8 C 41 [some (.ref (ad 4)), some (.int a1), some (.int a2), some (.int a3), some (.int r2), some (.int r4), some (.int x9), none] [] := by
  intro n
  induction n with
  | zero =>
    intro x9 hf
    rw [lp_X5_isForm_41] at hf
    cases hf
  | succ n ih =>
    intro x9 hf
    rw [lp_X5_isForm_41] at hf
    refine j_iload (pc := 41) X dX5_isForm_41 rfl ?_
    refine j_iload (pc := 43) X dX5_isForm_43 rfl ?_
    refine j_icmp_ge (tgt := 106) (pc := 45) X dX5_isForm_45 rfl (fun c10 => ?_) (fun c10 => ?_)
    · have hf := kT c10 hf
      refine j_weak (lv' := [some (.ref (ad 4)), some (.int a1), some (.int a2), some (.int a3), some (.int r2), some (.int r4), none, none]) (And.intro rfl (And.intro rfl (And.intro rfl (And.intro rfl (And.intro rfl (And.intro rfl trivial)))))) ?_
      exact hk106_7 () hf
    · have hf := kF c10 hf
      refine j_iload (pc := 48) X dX5_isForm_48 rfl ?_
      refine j_iload (pc := 50) X dX5_isForm_50 rfl ?_
      obtain ⟨j81_11, ej81_11, hf⟩ := jn_s hf
      have hj81_11 : ∀ (t11 : Int32), j81_11 t11 = some r → J g (WC cI cS ad) 8 C 81 [some (.ref (ad 4)), some (.int a1), some (.int a2), some (.int a3), some (.int r2), some (.int r4), some (.int x9), none] [.int t11] := by
        intro t11 hf
        have hf := jE1 ej81_11 hf
        refine j_istore (pc := 81) X dX5_isForm_81 (Nat.le_of_ble_eq_true rfl) (lv' := [some (.ref (ad 4)), some (.int a1), some (.int a2), some (.int a3), some (.int r2), some (.int r4), some (.int x9), some (.int t11)]) rfl ?_
        refine j_aload_n (pc := 83) X dX5_isForm_83 rfl ?_
        refine j_get (pc := 84) X iw_X5_isForm_X5 (wc5 kd_4) rfl 0 (Nat.le_of_ble_eq_true rfl) lk_X5_isForm_0 (v := .ref (ad 5)) rfl dX5_isForm_84 ?_
        refine j_iload_n (pc := 87) X dX5_isForm_87 rfl ?_
        refine j_iload (pc := 88) X dX5_isForm_88 rfl ?_
        obtain ⟨r14, h13, hf⟩ := kB hf
        refine j_callI (pc := 90) X (c_X7_letterOf N C 5 (kd5_1 kd_4 : kd 5 = 7) a1 x9 h13) gX5_isForm_X7_letterOf rfl ⟨rfl, rfl⟩ rfl hd_X7_letterOf ⟨(Nat.le_of_ble_eq_true rfl), (Nat.le_of_ble_eq_true rfl)⟩ (wc7 (kd5_1 kd_4 : kd 5 = 7)) rfl rfl rfl (Nat.le_of_ble_eq_true rfl) rfl dX5_isForm_90 ?_
        refine j_iload (pc := 93) X dX5_isForm_93 rfl ?_
        refine j_icmp_eq (tgt := 100) (pc := 95) X dX5_isForm_95 rfl (fun c15 => ?_) (fun c15 => ?_)
        · have hf := kT c15 hf
          refine j_iinc (pc := 100) X dX5_isForm_100 rfl (v := x9 + 1) (by rw [kc_1]) (Nat.le_of_ble_eq_true rfl) (lv' := [some (.ref (ad 4)), some (.int a1), some (.int a2), some (.int a3), some (.int r2), some (.int r4), some (.int (x9 + 1)), some (.int t11)]) rfl ?_
          refine j_goto (tgt := 41) (pc := 103) X dX5_isForm_103 rfl ?_
          refine j_weak (lv' := [some (.ref (ad 4)), some (.int a1), some (.int a2), some (.int a3), some (.int r2), some (.int r4), some (.int (x9 + 1)), none]) (And.intro rfl (And.intro rfl (And.intro rfl (And.intro rfl (And.intro rfl (And.intro rfl (And.intro rfl trivial))))))) ?_
          exact ih _ hf
        · have hf := kF c15 hf
          refine j_iconst (pc := 98) X dX5_isForm_98 kc_0 ?_
          exact j_retB hR dX5_isForm_99 hf
      refine j_icmp_ge (tgt := 68) (pc := 52) X dX5_isForm_52 rfl (fun c16 => ?_) (fun c16 => ?_)
      · have hf := kT c16 hf
        refine j_aload_n (pc := 68) X dX5_isForm_68 rfl ?_
        refine j_get (pc := 69) X iw_X5_isForm_X5 (wc5 kd_4) rfl 2 (Nat.le_of_ble_eq_true rfl) lk_X5_isForm_2 (v := .ref (ad 15)) rfl dX5_isForm_69 ?_
        refine j_iload_n (pc := 72) X dX5_isForm_72 rfl ?_
        refine j_iload (pc := 73) X dX5_isForm_73 rfl ?_
        refine j_iload (pc := 75) X dX5_isForm_75 rfl ?_
        refine j_isub (pc := 77) X dX5_isForm_77 ?_
        obtain ⟨r18, h17, hf⟩ := kB hf
        refine j_callI (pc := 78) X (c_X7_letterOf N C 15 (kd5_11 kd_4 : kd 15 = 7) a3 (x9 - r4) h17) gX5_isForm_X7_letterOf rfl ⟨rfl, rfl⟩ rfl hd_X7_letterOf ⟨(Nat.le_of_ble_eq_true rfl), (Nat.le_of_ble_eq_true rfl)⟩ (wc7 (kd5_11 kd_4 : kd 15 = 7)) rfl rfl rfl (Nat.le_of_ble_eq_true rfl) rfl dX5_isForm_78 ?_
        exact hj81_11 _ hf
      · have hf := kF c16 hf
        refine j_aload_n (pc := 55) X dX5_isForm_55 rfl ?_
        refine j_get (pc := 56) X iw_X5_isForm_X5 (wc5 kd_4) rfl 1 (Nat.le_of_ble_eq_true rfl) lk_X5_isForm_1 (v := .ref (ad 10)) rfl dX5_isForm_56 ?_
        refine j_iload_n (pc := 59) X dX5_isForm_59 rfl ?_
        refine j_iload (pc := 60) X dX5_isForm_60 rfl ?_
        obtain ⟨r20, h19, hf⟩ := kB hf
        refine j_callI (pc := 62) X (c_X7_letterOf N C 10 (kd5_6 kd_4 : kd 10 = 7) a2 x9 h19) gX5_isForm_X7_letterOf rfl ⟨rfl, rfl⟩ rfl hd_X7_letterOf ⟨(Nat.le_of_ble_eq_true rfl), (Nat.le_of_ble_eq_true rfl)⟩ (wc7 (kd5_6 kd_4 : kd 10 = 7)) rfl rfl rfl (Nat.le_of_ble_eq_true rfl) rfl dX5_isForm_62 ?_
        refine j_goto (tgt := 81) (pc := 65) X dX5_isForm_65 rfl ?_
        exact hj81_11 _ hf
set_option maxHeartbeats 4000000 in
set_option maxRecDepth 100000 in
theorem t_X5_isForm {g : kG} {cI cS : ClassId} {ad : Nat → Nat} {C : kS} (X : Kx g cI cS cX5_isForm RX5 wsX5_isForm 8 rm_X5_isForm) {r : Int32} (hR : kRI g (WC cI cS ad) 8 cX5_isForm .boolean C r) (N : Nat) (a1 : Int32) (a2 : Int32) (a3 : Int32)  (hf : f_X5_isForm N C a1 a2 a3 = some r) : J g (WC cI cS ad) 8 C 0 [some (.ref (ad 4)), some (.int a1), some (.int a2), some (.int a3), none, none, none, none] [] := by
  unfold f_X5_isForm at hf
  refine j_aload_n (pc := 0) X dX5_isForm_0 rfl ?_
  refine j_get (pc := 1) X iw_X5_isForm_X5 (wc5 kd_4) rfl 0 (Nat.le_of_ble_eq_true rfl) lk_X5_isForm_0 (v := .ref (ad 5)) rfl dX5_isForm_1 ?_
  refine j_iload_n (pc := 4) X dX5_isForm_4 rfl ?_
  obtain ⟨r2, h1, hf⟩ := kB hf
  refine j_callI (pc := 5) X (c_X7_lengthOf N C 5 (kd5_1 kd_4 : kd 5 = 7) a1 h1) gX5_isForm_X7_lengthOf rfl ⟨rfl, rfl⟩ rfl hd_X7_lengthOf ⟨(Nat.le_of_ble_eq_true rfl), (Nat.le_of_ble_eq_true rfl)⟩ (wc7 (kd5_1 kd_4 : kd 5 = 7)) rfl rfl rfl (Nat.le_of_ble_eq_true rfl) rfl dX5_isForm_5 ?_
  refine j_istore (pc := 8) X dX5_isForm_8 (Nat.le_of_ble_eq_true rfl) (lv' := [some (.ref (ad 4)), some (.int a1), some (.int a2), some (.int a3), some (.int r2), none, none, none]) rfl ?_
  refine j_aload_n (pc := 10) X dX5_isForm_10 rfl ?_
  refine j_get (pc := 11) X iw_X5_isForm_X5 (wc5 kd_4) rfl 1 (Nat.le_of_ble_eq_true rfl) lk_X5_isForm_1 (v := .ref (ad 10)) rfl dX5_isForm_11 ?_
  refine j_iload_n (pc := 14) X dX5_isForm_14 rfl ?_
  obtain ⟨r4, h3, hf⟩ := kB hf
  refine j_callI (pc := 15) X (c_X7_lengthOf N C 10 (kd5_6 kd_4 : kd 10 = 7) a2 h3) gX5_isForm_X7_lengthOf rfl ⟨rfl, rfl⟩ rfl hd_X7_lengthOf ⟨(Nat.le_of_ble_eq_true rfl), (Nat.le_of_ble_eq_true rfl)⟩ (wc7 (kd5_6 kd_4 : kd 10 = 7)) rfl rfl rfl (Nat.le_of_ble_eq_true rfl) rfl dX5_isForm_15 ?_
  refine j_istore (pc := 18) X dX5_isForm_18 (Nat.le_of_ble_eq_true rfl) (lv' := [some (.ref (ad 4)), some (.int a1), some (.int a2), some (.int a3), some (.int r2), some (.int r4), none, none]) rfl ?_
  refine j_iload (pc := 20) X dX5_isForm_20 rfl ?_
  refine j_iload (pc := 22) X dX5_isForm_22 rfl ?_
  refine j_aload_n (pc := 24) X dX5_isForm_24 rfl ?_
  refine j_get (pc := 25) X iw_X5_isForm_X5 (wc5 kd_4) rfl 2 (Nat.le_of_ble_eq_true rfl) lk_X5_isForm_2 (v := .ref (ad 15)) rfl dX5_isForm_25 ?_
  refine j_iload_n (pc := 28) X dX5_isForm_28 rfl ?_
  obtain ⟨r6, h5, hf⟩ := kB hf
  refine j_callI (pc := 29) X (c_X7_lengthOf N C 15 (kd5_11 kd_4 : kd 15 = 7) a3 h5) gX5_isForm_X7_lengthOf rfl ⟨rfl, rfl⟩ rfl hd_X7_lengthOf ⟨(Nat.le_of_ble_eq_true rfl), (Nat.le_of_ble_eq_true rfl)⟩ (wc7 (kd5_11 kd_4 : kd 15 = 7)) rfl rfl rfl (Nat.le_of_ble_eq_true rfl) rfl dX5_isForm_29 ?_
  refine j_iadd (pc := 32) X dX5_isForm_32 ?_
  refine j_icmp_eq (tgt := 38) (pc := 33) X dX5_isForm_33 rfl (fun c7 => ?_) (fun c7 => ?_)
  · have hf := kT c7 hf
    refine j_iconst (pc := 38) X dX5_isForm_38 kc_0 ?_
    refine j_istore (pc := 39) X dX5_isForm_39 (Nat.le_of_ble_eq_true rfl) (lv' := [some (.ref (ad 4)), some (.int a1), some (.int a2), some (.int a3), some (.int r2), some (.int r4), some (.int 0), none]) rfl ?_
    obtain ⟨k106_7, ek106_7, hf⟩ := jn_s hf
    have hk106_7 : ∀ (_ : Unit), k106_7 = some r → J g (WC cI cS ad) 8 C 106 [some (.ref (ad 4)), some (.int a1), some (.int a2), some (.int a3), some (.int r2), some (.int r4), none, none] [] := by
      intro _ hf
      have hf := jE0 ek106_7 hf
      refine j_iconst (pc := 106) X dX5_isForm_106 kc_1 ?_
      exact j_retB hR dX5_isForm_107 hf
    exact lt_X5_isForm_41 X hR N a1 a2 a3 r2 r4       k106_7 hk106_7 N _ hf
  · have hf := kF c7 hf
    refine j_iconst (pc := 36) X dX5_isForm_36 kc_0 ?_
    exact j_retB hR dX5_isForm_37 hf
theorem c_X5_isForm {l : Launch} {D : va_G} {cI cS : ClassId} {ad : Nat → Nat} (N : Nat) (C : kS) (a1 : Int32) (a2 : Int32) (a3 : Int32) {r : Int32} (hf : f_X5_isForm N C a1 a2 a3 = some r) : mI l yX5_isForm wsX5_isForm rm_X5_isForm D cI cS (WC cI cS ad) C [.ref (ad 4), .int a1, .int a2, .int a3] r :=
  mI.of (by decide) rfl rfl (Nat.le_of_ble_eq_true rfl) (fun g X hR => t_X5_isForm X  hR N a1 a2 a3  hf)
