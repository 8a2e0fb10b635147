abbrev rm_X7_remove : Room := { frames := 2, cells := 0, slots := 0, locals := 43 }
theorem lk_X7_remove_0 : Cond.fieldLink RX7 28 "BlackBars$Words" "size" "I" ∈ wsX7_remove := List.mem_of_getElem? (i := 1) rfl
theorem iw_X7_remove_X7 : ∀ w ∈ wsX70, w ∈ wsX7_remove := fun _ h => List.mem_cons_of_mem _ (List.mem_append_left _ (List.mem_append_right _ h))
theorem lk_X7_remove_1 : Cond.fieldLink RX7 25 "BlackBars$Words" "lengths" "LBlackBars$Row;" ∈ wsX7_remove := List.mem_of_getElem? (i := 2) rfl
theorem lk_X7_remove_2 : Cond.fieldLink RX7 13 "BlackBars$Words" "mostLetters" "I" ∈ wsX7_remove := List.mem_of_getElem? (i := 3) rfl
theorem lk_X7_remove_3 : Cond.fieldLink RX7 21 "BlackBars$Words" "letters" "LBlackBars$Row;" ∈ wsX7_remove := List.mem_of_getElem? (i := 4) rfl
theorem hd_X7_remove : kHd yX7_remove 1 := by decide +kernel
set_option maxHeartbeats 4000000 in
set_option maxRecDepth 100000 in
theorem lt_X7_remove_38 {g : kG} {cI cS : ClassId} {ad : Nat → Nat} (X : Kx g cI cS cX7_remove RX7 wsX7_remove 4 rm_X7_remove) {Cr : kS} (hI : kInj 132 ad) (Y : Kw g (WC cI cS ad) (kAd 132 ad)) (hR : kRV g (WC cI cS ad) 4 cX7_remove Cr) (N : Nat) (k : Nat) (a1 : Int32) (x7 : Int32) (hk : kd k = 7) (k75_14 : kS → Option (kS)) (hk75_14 : ∀ (C14 : kS), k75_14 C14 = some Cr → J g (WC cI cS ad) 4 C14 75 [some (.ref (ad k)), some (.int a1), some (.int x7), none] []) : ∀ (n : Nat) (x16 : Int32) (C17 : kS), lp_X7_remove_38 N k x7 k75_14 n x16 C17 = some Cr → J g (WC cI cS ad) 4 C17 38 [some (.ref (ad k)), some (.int a1), some (.int x7), some (.int x16)] [] := by
  intro n
  induction n with
  | zero =>
    intro x16 C17 hf
    rw [lp_X7_remove_38] at hf
    cases hf
  | succ n ih =>
    intro x16 C17 hf
    rw [lp_X7_remove_38] at hf
    refine j_iload_n (pc := 38) X dX7_remove_38 rfl ?_
    refine j_aload_n (pc := 39) X dX7_remove_39 rfl ?_
    refine j_get (pc := 40) X iw_X7_remove_X7 (wc7 hk) rfl 1 (Nat.le_of_ble_eq_true rfl) lk_X7_remove_2 (v := .int (C17 k 1)) rfl dX7_remove_40 ?_
    refine j_icmp_ge (tgt := 75) (pc := 43) X dX7_remove_43 rfl (fun c18 => ?_) (fun c18 => ?_)
    · have hf := kT c18 hf
      refine j_weak (lv' := [some (.ref (ad k)), some (.int a1), some (.int x7), none]) (And.intro rfl (And.intro rfl (And.intro rfl trivial))) ?_
      exact hk75_14 _ hf
    · have hf := kF c18 hf
      refine j_aload_n (pc := 46) X dX7_remove_46 rfl ?_
      refine j_get (pc := 47) X iw_X7_remove_X7 (wc7 hk) rfl 2 (Nat.le_of_ble_eq_true rfl) lk_X7_remove_3 (v := .ref (ad (k + 1))) rfl dX7_remove_47 ?_
      refine j_iload_n (pc := 50) X dX7_remove_50 rfl ?_
      refine j_aload_n (pc := 51) X dX7_remove_51 rfl ?_
      refine j_get (pc := 52) X iw_X7_remove_X7 (wc7 hk) rfl 1 (Nat.le_of_ble_eq_true rfl) lk_X7_remove_2 (v := .int (C17 k 1)) rfl dX7_remove_52 ?_
      refine j_imul (pc := 55) X dX7_remove_55 ?_
      refine j_iload_n (pc := 56) X dX7_remove_56 rfl ?_
      refine j_iadd (pc := 57) X dX7_remove_57 ?_
      refine j_aload_n (pc := 58) X dX7_remove_58 rfl ?_
      refine j_iload_n (pc := 59) X dX7_remove_59 rfl ?_
      refine j_iconst (pc := 60) X dX7_remove_60 kc_1 ?_
      refine j_iadd (pc := 61) X dX7_remove_61 ?_
      refine j_iload_n (pc := 62) X dX7_remove_62 rfl ?_
      obtain ⟨r20, h19, hf⟩ := kB hf
      refine j_callI (pc := 63) X (c_X7_letterOf N C17 k hk (x7 + 1) x16 h19) gX7_remove_X7_letterOf rfl ⟨rfl, rfl⟩ rfl hd_X7_letterOf ⟨(Nat.le_of_ble_eq_true rfl), (Nat.le_of_ble_eq_true rfl)⟩ (wc7 hk) rfl rfl rfl (Nat.le_of_ble_eq_true rfl) rfl dX7_remove_63 ?_
      obtain ⟨C22, h21, hf⟩ := kB hf
      refine j_callV (pc := 66) X Y (c_X3_put hI N C17 (k + 1) (kd7_1 hk) ((x7 * (C17 k 1)) + x16) r20 h21) gX7_remove_X3_put rfl ⟨rfl, rfl⟩ rfl hd_X3_put ⟨(Nat.le_of_ble_eq_true rfl), (Nat.le_of_ble_eq_true rfl)⟩ (wc3 (kd7_1 hk)) rfl rfl rfl (Nat.le_of_ble_eq_true rfl) rfl dX7_remove_66 ?_
      refine j_iinc (pc := 69) X dX7_remove_69 rfl (v := x16 + 1) (by rw [kc_1]) (Nat.le_of_ble_eq_true rfl) (lv' := [some (.ref (ad k)), some (.int a1), some (.int x7), some (.int (x16 + 1))]) rfl ?_
      refine j_goto (tgt := 38) (pc := 72) X dX7_remove_72 rfl ?_
      exact ih _ _ hf
set_option maxHeartbeats 4000000 in
set_option maxRecDepth 100000 in
theorem lt_X7_remove_11 {g : kG} {cI cS : ClassId} {ad : Nat → Nat} (X : Kx g cI cS cX7_remove RX7 wsX7_remove 4 rm_X7_remove) {Cr : kS} (hI : kInj 132 ad) (Y : Kw g (WC cI cS ad) (kAd 132 ad)) (hR : kRV g (WC cI cS ad) 4 cX7_remove Cr) (N : Nat) (k : Nat) (a1 : Int32) (hk : kd k = 7) (k81_4 : kS → Option (kS)) (hk81_4 : ∀ (C4 : kS), k81_4 C4 = some Cr → J g (WC cI cS ad) 4 C4 81 [some (.ref (ad k)), some (.int a1), none, none] []) : ∀ (n : Nat) (x7 : Int32) (C8 : kS), lp_X7_remove_11 N k k81_4 n x7 C8 = some Cr → J g (WC cI cS ad) 4 C8 11 [some (.ref (ad k)), some (.int a1), some (.int x7), none] [] := by
  intro n
  induction n with
  | zero =>
    intro x7 C8 hf
    rw [lp_X7_remove_11] at hf
    cases hf
  | succ n ih =>
    intro x7 C8 hf
    rw [lp_X7_remove_11] at hf
    refine j_iload_n (pc := 11) X dX7_remove_11 rfl ?_
    refine j_aload_n (pc := 12) X dX7_remove_12 rfl ?_
    refine j_get (pc := 13) X iw_X7_remove_X7 (wc7 hk) rfl 4 (Nat.le_of_ble_eq_true rfl) lk_X7_remove_0 (v := .int (C8 k 4)) rfl dX7_remove_13 ?_
    refine j_iconst (pc := 16) X dX7_remove_16 kc_1 ?_
    refine j_isub (pc := 17) X dX7_remove_17 ?_
    refine j_icmp_ge (tgt := 81) (pc := 18) X dX7_remove_18 rfl (fun c9 => ?_) (fun c9 => ?_)
    · have hf := kT c9 hf
      refine j_weak (lv' := [some (.ref (ad k)), some (.int a1), none, none]) (And.intro rfl (And.intro rfl trivial)) ?_
      exact hk81_4 _ hf
    · have hf := kF c9 hf
      refine j_aload_n (pc := 21) X dX7_remove_21 rfl ?_
      refine j_get (pc := 22) X iw_X7_remove_X7 (wc7 hk) rfl 3 (Nat.le_of_ble_eq_true rfl) lk_X7_remove_1 (v := .ref (ad (k + 3))) rfl dX7_remove_22 ?_
      refine j_iload_n (pc := 25) X dX7_remove_25 rfl ?_
      refine j_aload_n (pc := 26) X dX7_remove_26 rfl ?_
      refine j_iload_n (pc := 27) X dX7_remove_27 rfl ?_
      refine j_iconst (pc := 28) X dX7_remove_28 kc_1 ?_
      refine j_iadd (pc := 29) X dX7_remove_29 ?_
      obtain ⟨r11, h10, hf⟩ := kB hf
      refine j_callI (pc := 30) X (c_X7_lengthOf N C8 k hk (x7 + 1) h10) gX7_remove_X7_lengthOf rfl ⟨rfl, rfl⟩ rfl hd_X7_lengthOf ⟨(Nat.le_of_ble_eq_true rfl), (Nat.le_of_ble_eq_true rfl)⟩ (wc7 hk) rfl rfl rfl (Nat.le_of_ble_eq_true rfl) rfl dX7_remove_30 ?_
      obtain ⟨C13, h12, hf⟩ := kB hf
      refine j_callV (pc := 33) X Y (c_X3_put hI N C8 (k + 3) (kd7_3 hk) x7 r11 h12) gX7_remove_X3_put rfl ⟨rfl, rfl⟩ rfl hd_X3_put ⟨(Nat.le_of_ble_eq_true rfl), (Nat.le_of_ble_eq_true rfl)⟩ (wc3 (kd7_3 hk)) rfl rfl rfl (Nat.le_of_ble_eq_true rfl) rfl dX7_remove_33 ?_
      refine j_iconst (pc := 36) X dX7_remove_36 kc_0 ?_
      refine j_istore_n (pc := 37) X dX7_remove_37 (Nat.le_of_ble_eq_true rfl) (lv' := [some (.ref (ad k)), some (.int a1), some (.int x7), some (.int 0)]) rfl ?_
      obtain ⟨k75_14, ek75_14, hf⟩ := jn_s hf
      have hk75_14 : ∀ (C14 : kS), k75_14 C14 = some Cr → J g (WC cI cS ad) 4 C14 75 [some (.ref (ad k)), some (.int a1), some (.int x7), none] [] := by
        intro C14 hf
        have hf := jE1 ek75_14 hf
        refine j_iinc (pc := 75) X dX7_remove_75 rfl (v := x7 + 1) (by rw [kc_1]) (Nat.le_of_ble_eq_true rfl) (lv' := [some (.ref (ad k)), some (.int a1), some (.int (x7 + 1)), none]) rfl ?_
        refine j_goto (tgt := 11) (pc := 78) X dX7_remove_78 rfl ?_
        exact ih _ _ hf
      exact lt_X7_remove_38 X hI Y hR N k a1 x7 hk   k75_14 hk75_14 N _ _ hf
set_option maxHeartbeats 4000000 in
set_option maxRecDepth 100000 in
theorem t_X7_remove {g : kG} {cI cS : ClassId} {ad : Nat → Nat} (X : Kx g cI cS cX7_remove RX7 wsX7_remove 4 rm_X7_remove) {Cr : kS} (hI : kInj 132 ad) (Y : Kw g (WC cI cS ad) (kAd 132 ad)) (hR : kRV g (WC cI cS ad) 4 cX7_remove Cr) (N : Nat) (C : kS) (k : Nat) (a1 : Int32) (hk : kd k = 7) (hf : f_X7_remove N C k a1 = some Cr) : J g (WC cI cS ad) 4 C 0 [some (.ref (ad k)), some (.int a1), none, none] [] := by
  unfold f_X7_remove at hf
  refine j_aload_n (pc := 0) X dX7_remove_0 rfl ?_
  refine j_iload_n (pc := 1) X dX7_remove_1 rfl ?_
  obtain ⟨r2, h1, hf⟩ := kB hf
  refine j_callI (pc := 2) X (c_X7_has N C k hk a1 h1) gX7_remove_X7_has rfl ⟨rfl, rfl⟩ rfl hd_X7_has ⟨(Nat.le_of_ble_eq_true rfl), (Nat.le_of_ble_eq_true rfl)⟩ (wc7 hk) rfl rfl rfl (Nat.le_of_ble_eq_true rfl) rfl dX7_remove_2 ?_
  refine j_if_ne (tgt := 9) (pc := 5) X dX7_remove_5 rfl (fun c3 => ?_) (fun c3 => ?_)
  · have hf := kF c3 hf
    refine j_iload_n (pc := 9) X dX7_remove_9 rfl ?_
    refine j_istore_n (pc := 10) X dX7_remove_10 (Nat.le_of_ble_eq_true rfl) (lv' := [some (.ref (ad k)), some (.int a1), some (.int a1), none]) rfl ?_
    obtain ⟨k81_4, ek81_4, hf⟩ := jn_s hf
    have hk81_4 : ∀ (C4 : kS), k81_4 C4 = some Cr → J g (WC cI cS ad) 4 C4 81 [some (.ref (ad k)), some (.int a1), none, none] [] := by
      intro C4 hf
      have hf := jE1 ek81_4 hf
      refine j_aload_n (pc := 81) X dX7_remove_81 rfl ?_
      refine j_dup (pc := 82) X dX7_remove_82 rfl ?_
      refine j_get (pc := 83) X iw_X7_remove_X7 (wc7 hk) rfl 4 (Nat.le_of_ble_eq_true rfl) lk_X7_remove_0 (v := .int (C4 k 4)) rfl dX7_remove_83 ?_
      refine j_iconst (pc := 86) X dX7_remove_86 kc_1 ?_
      refine j_isub (pc := 87) X dX7_remove_87 ?_
      obtain ⟨C6, eC6, hf⟩ := jn_s hf
      refine j_put (C' := C6) (pc := 88) X Y iw_X7_remove_X7 tyX7 tyX7_ok nmX7 (wc7 hk) rfl 4 (Nat.le_of_ble_eq_true rfl) lk_X7_remove_0 rfl (tyX7_ok 4 (Nat.le_of_ble_eq_true rfl)) (Nat.le_of_ble_eq_true rfl) dX7_remove_88 (by rw [eC6]; exact sc7_4 hk _) ?_
      exact j_retV hR dX7_remove_91 hf
    exact lt_X7_remove_11 X hI Y hR N k a1 hk  k81_4 hk81_4 N _ _ hf
  · have hf := kT c3 hf
    exact j_retV hR dX7_remove_8 hf
theorem c_X7_remove {l : Launch} {D : va_G} {cI cS : ClassId} {ad : Nat → Nat} (hI : kInj 132 ad) (N : Nat) (C : kS) (k : Nat) (hk : kd k = 7) (a1 : Int32) {Cr : kS} (hf : f_X7_remove N C k a1 = some Cr) : mV l yX7_remove wsX7_remove rm_X7_remove D cI cS (WC cI cS ad) (kAd 132 ad) C [.ref (ad k), .int a1] Cr :=
  mV.of (by decide) rfl rfl (Nat.le_of_ble_eq_true rfl) (WC_D hI) (fun g X Y hR => t_X7_remove X hI Y hR N C k a1 hk hf)
abbrev rm_X8_workOut : Room := { frames := 4, cells := 0, slots := 0, locals := 93 }
theorem lk_X8_workOut_0 : Cond.fieldLink RX8 33 "BlackBars" "forms" "LBlackBars$Forms;" ∈ wsX8_workOut := List.mem_of_getElem? (i := 1) rfl
theorem iw_X8_workOut_X8 : ∀ w ∈ wsX80, w ∈ wsX8_workOut := fun _ h => List.mem_cons_of_mem _ (List.mem_append_left _ (List.mem_append_left _ (List.mem_append_left _ (List.mem_append_left _ (List.mem_append_left _ (List.mem_append_left _ (List.mem_append_right _ h)))))))
theorem lk_X8_workOut_1 : Cond.fieldLink RX8 19 "BlackBars" "state" "LBlackBars$State;" ∈ wsX8_workOut := List.mem_of_getElem? (i := 2) rfl
theorem lk_X8_workOut_2 : Cond.fieldLink RX8 42 "BlackBars" "bars" "LBlackBars$Bars;" ∈ wsX8_workOut := List.mem_of_getElem? (i := 3) rfl
theorem iw_X8_workOut_X5 : ∀ w ∈ wsX50, w ∈ wsX8_workOut := fun _ h => List.mem_cons_of_mem _ (List.mem_append_left _ (List.mem_append_left _ (List.mem_append_left _ (List.mem_append_left _ (List.mem_append_left _ (List.mem_append_right _ h))))))
theorem lk_X8_workOut_3 : Cond.fieldLink RX8 54 "BlackBars" "sheet" "LBlackBars$Sheet;" ∈ wsX8_workOut := List.mem_of_getElem? (i := 4) rfl
theorem hd_X8_workOut : kHd yX8_workOut 0 := by decide +kernel
set_option maxHeartbeats 4000000 in
set_option maxRecDepth 100000 in
theorem t_X8_workOut {g : kG} {cI cS : ClassId} {ad : Nat → Nat} (X : Kx g cI cS cX8_workOut RX8 wsX8_workOut 1 rm_X8_workOut) {Cr : kS} (hI : kInj 132 ad) (Y : Kw g (WC cI cS ad) (kAd 132 ad)) (hR : kRV g (WC cI cS ad) 1 cX8_workOut Cr) (N : Nat) (C : kS)   (hf : f_X8_workOut N C = some Cr) : J g (WC cI cS ad) 1 C 0 [some (.ref (ad 0))] [] := by
  unfold f_X8_workOut at hf
  refine j_aload_n (pc := 0) X dX8_workOut_0 rfl ?_
  refine j_get (pc := 1) X iw_X8_workOut_X8 (wc8 kd_0) rfl 3 (Nat.le_of_ble_eq_true rfl) lk_X8_workOut_0 (v := .ref (ad 106)) rfl dX8_workOut_1 ?_
  refine j_aload_n (pc := 4) X dX8_workOut_4 rfl ?_
  refine j_get (pc := 5) X iw_X8_workOut_X8 (wc8 kd_0) rfl 1 (Nat.le_of_ble_eq_true rfl) lk_X8_workOut_1 (v := .ref (ad 4)) rfl dX8_workOut_5 ?_
  obtain ⟨C2, h1, hf⟩ := kB hf
  refine j_callV (pc := 8) X Y (c_X1_measure hI N C  h1) gX8_workOut_X1_measure rfl ⟨rfl, rfl⟩ rfl hd_X1_measure ⟨(Nat.le_of_ble_eq_true rfl), (Nat.le_of_ble_eq_true rfl)⟩ (wc1 kd_106) rfl rfl rfl (Nat.le_of_ble_eq_true rfl) rfl dX8_workOut_8 ?_
  refine j_aload_n (pc := 11) X dX8_workOut_11 rfl ?_
  refine j_get (pc := 12) X iw_X8_workOut_X8 (wc8 kd_0) rfl 4 (Nat.le_of_ble_eq_true rfl) lk_X8_workOut_2 (v := .ref (ad 113)) rfl dX8_workOut_12 ?_
  refine j_aload_n (pc := 15) X dX8_workOut_15 rfl ?_
  refine j_get (pc := 16) X iw_X8_workOut_X8 (wc8 kd_0) rfl 1 (Nat.le_of_ble_eq_true rfl) lk_X8_workOut_1 (v := .ref (ad 4)) rfl dX8_workOut_16 ?_
  refine j_getN (pc := 19) X iw_X8_workOut_X5 (wc5 kd_4) rfl 4 (Nat.le_of_ble_eq_true rfl) (List.mem_of_getElem? (i := 2) rfl) (v := .ref (ad 22)) rfl dX8_workOut_19 ?_
  refine j_iconst (pc := 22) X dX8_workOut_22 kc_0 ?_
  obtain ⟨r4, h3, hf⟩ := kB hf
  refine j_callI (pc := 23) X (c_X3_at N C2 22 (kd5_18 kd_4 : kd 22 = 3) 0 h3) gX8_workOut_X3_at rfl ⟨rfl, rfl⟩ rfl hd_X3_at ⟨(Nat.le_of_ble_eq_true rfl), (Nat.le_of_ble_eq_true rfl)⟩ (wc3 (kd5_18 kd_4 : kd 22 = 3)) rfl rfl rfl (Nat.le_of_ble_eq_true rfl) rfl dX8_workOut_23 ?_
  refine j_aload_n (pc := 26) X dX8_workOut_26 rfl ?_
  refine j_get (pc := 27) X iw_X8_workOut_X8 (wc8 kd_0) rfl 1 (Nat.le_of_ble_eq_true rfl) lk_X8_workOut_1 (v := .ref (ad 4)) rfl dX8_workOut_27 ?_
  refine j_getN (pc := 30) X iw_X8_workOut_X5 (wc5 kd_4) rfl 4 (Nat.le_of_ble_eq_true rfl) (List.mem_of_getElem? (i := 2) rfl) (v := .ref (ad 22)) rfl dX8_workOut_30 ?_
  refine j_iconst (pc := 33) X dX8_workOut_33 kc_1 ?_
  obtain ⟨r6, h5, hf⟩ := kB hf
  refine j_callI (pc := 34) X (c_X3_at N C2 22 (kd5_18 kd_4 : kd 22 = 3) 1 h5) gX8_workOut_X3_at rfl ⟨rfl, rfl⟩ rfl hd_X3_at ⟨(Nat.le_of_ble_eq_true rfl), (Nat.le_of_ble_eq_true rfl)⟩ (wc3 (kd5_18 kd_4 : kd 22 = 3)) rfl rfl rfl (Nat.le_of_ble_eq_true rfl) rfl dX8_workOut_34 ?_
  refine j_aload_n (pc := 37) X dX8_workOut_37 rfl ?_
  refine j_get (pc := 38) X iw_X8_workOut_X8 (wc8 kd_0) rfl 1 (Nat.le_of_ble_eq_true rfl) lk_X8_workOut_1 (v := .ref (ad 4)) rfl dX8_workOut_38 ?_
  refine j_getN (pc := 41) X iw_X8_workOut_X5 (wc5 kd_4) rfl 4 (Nat.le_of_ble_eq_true rfl) (List.mem_of_getElem? (i := 2) rfl) (v := .ref (ad 22)) rfl dX8_workOut_41 ?_
  refine j_iconst (pc := 44) X dX8_workOut_44 kc_2 ?_
  obtain ⟨r8, h7, hf⟩ := kB hf
  refine j_callI (pc := 45) X (c_X3_at N C2 22 (kd5_18 kd_4 : kd 22 = 3) 2 h7) gX8_workOut_X3_at rfl ⟨rfl, rfl⟩ rfl hd_X3_at ⟨(Nat.le_of_ble_eq_true rfl), (Nat.le_of_ble_eq_true rfl)⟩ (wc3 (kd5_18 kd_4 : kd 22 = 3)) rfl rfl rfl (Nat.le_of_ble_eq_true rfl) rfl dX8_workOut_45 ?_
  obtain ⟨C10, h9, hf⟩ := kB hf
  refine j_callV (pc := 48) X Y (c_X0_draw hI N C2 113 kd_113 r4 r6 r8 h9) gX8_workOut_X0_draw rfl ⟨rfl, rfl⟩ rfl hd_X0_draw ⟨(Nat.le_of_ble_eq_true rfl), (Nat.le_of_ble_eq_true rfl)⟩ (wc0 kd_113) rfl rfl rfl (Nat.le_of_ble_eq_true rfl) rfl dX8_workOut_48 ?_
  refine j_aload_n (pc := 51) X dX8_workOut_51 rfl ?_
  refine j_get (pc := 52) X iw_X8_workOut_X8 (wc8 kd_0) rfl 6 (Nat.le_of_ble_eq_true rfl) lk_X8_workOut_3 (v := .ref (ad 119)) rfl dX8_workOut_52 ?_
  obtain ⟨C12, h11, hf⟩ := kB hf
  refine j_callV (pc := 55) X Y (c_X4_hideWords hI N C10  h11) gX8_workOut_X4_hideWords rfl ⟨rfl, rfl⟩ rfl hd_X4_hideWords ⟨(Nat.le_of_ble_eq_true rfl), (Nat.le_of_ble_eq_true rfl)⟩ (wc4 kd_119) rfl rfl rfl (Nat.le_of_ble_eq_true rfl) rfl dX8_workOut_55 ?_
  refine j_aload_n (pc := 58) X dX8_workOut_58 rfl ?_
  refine j_get (pc := 59) X iw_X8_workOut_X8 (wc8 kd_0) rfl 6 (Nat.le_of_ble_eq_true rfl) lk_X8_workOut_3 (v := .ref (ad 119)) rfl dX8_workOut_59 ?_
  refine j_aload_n (pc := 62) X dX8_workOut_62 rfl ?_
  refine j_get (pc := 63) X iw_X8_workOut_X8 (wc8 kd_0) rfl 4 (Nat.le_of_ble_eq_true rfl) lk_X8_workOut_2 (v := .ref (ad 113)) rfl dX8_workOut_63 ?_
  obtain ⟨C14, h13, hf⟩ := kB hf
  refine j_callV (pc := 66) X Y (c_X4_flow hI N C12 113 kd_113 h13) gX8_workOut_X4_flow rfl ⟨rfl, rfl⟩ rfl hd_X4_flow ⟨(Nat.le_of_ble_eq_true rfl), (Nat.le_of_ble_eq_true rfl)⟩ (wc4 kd_119) rfl rfl rfl (Nat.le_of_ble_eq_true rfl) rfl dX8_workOut_66 ?_
  exact j_retV hR dX8_workOut_69 hf
theorem c_X8_workOut {l : Launch} {D : va_G} {cI cS : ClassId} {ad : Nat → Nat} (hI : kInj 132 ad) (N : Nat) (C : kS)  {Cr : kS} (hf : f_X8_workOut N C = some Cr) : mV l yX8_workOut wsX8_workOut rm_X8_workOut D cI cS (WC cI cS ad) (kAd 132 ad) C [.ref (ad 0)] Cr :=
  mV.of (by decide) rfl rfl (Nat.le_of_ble_eq_true rfl) (WC_D hI) (fun g X Y hR => t_X8_workOut X hI Y hR N C   hf)
abbrev rm_X8_addTextTo : Room := { frames := 5, cells := 0, slots := 0, locals := 125 }
theorem lk_X8_addTextTo_0 : Cond.fieldLink RX8 12 "BlackBars" "text" "LBlackBars$Text;" ∈ wsX8_addTextTo := List.mem_of_getElem? (i := 1) rfl
theorem iw_X8_addTextTo_X8 : ∀ w ∈ wsX80, w ∈ wsX8_addTextTo := fun _ h => List.mem_cons_of_mem _ (List.mem_append_left _ (List.mem_append_left _ (List.mem_append_left _ (List.mem_append_left _ (List.mem_append_left _ (List.mem_append_left _ (List.mem_append_left _ (List.mem_append_left _ (List.mem_append_right _ h)))))))))
theorem lk_X8_addTextTo_1 : Cond.fieldLink RX8 26 "BlackBars" "history" "LBlackBars$History;" ∈ wsX8_addTextTo := List.mem_of_getElem? (i := 2) rfl
theorem lk_X8_addTextTo_2 : Cond.fieldLink RX8 19 "BlackBars" "state" "LBlackBars$State;" ∈ wsX8_addTextTo := List.mem_of_getElem? (i := 3) rfl
theorem hd_X8_addTextTo : kHd yX8_addTextTo 1 := by decide +kernel
set_option maxHeartbeats 4000000 in
set_option maxRecDepth 100000 in
theorem t_X8_addTextTo {g : kG} {cI cS : ClassId} {ad : Nat → Nat} (X : Kx g cI cS cX8_addTextTo RX8 wsX8_addTextTo 2 rm_X8_addTextTo) {r : Int32} {Cr : kS} (hI : kInj 132 ad) (Y : Kw g (WC cI cS ad) (kAd 132 ad)) (hR : kRI g (WC cI cS ad) 2 cX8_addTextTo .int Cr r) (N : Nat) (C : kS) (k1 : Nat) (hk1 : kd k1 = 7) (hf : f_X8_addTextTo N C k1 = some (r, Cr)) : J g (WC cI cS ad) 2 C 0 [some (.ref (ad 0)), some (.ref (ad k1))] [] := by
  unfold f_X8_addTextTo at hf
  refine j_aload_n (pc := 0) X dX8_addTextTo_0 rfl ?_
  refine j_get (pc := 1) X iw_X8_addTextTo_X8 (wc8 kd_0) rfl 0 (Nat.le_of_ble_eq_true rfl) lk_X8_addTextTo_0 (v := .ref (ad 1)) rfl dX8_addTextTo_1 ?_
  refine j_aload_n (pc := 4) X dX8_addTextTo_4 rfl ?_
  obtain ⟨r2, h1, hf⟩ := kB hf
  refine j_callI (pc := 5) X (c_X7_greatestLength N C k1 hk1 h1) gX8_addTextTo_X7_greatestLength rfl ⟨rfl, rfl⟩ rfl hd_X7_greatestLength ⟨(Nat.le_of_ble_eq_true rfl), (Nat.le_of_ble_eq_true rfl)⟩ (wc7 hk1) rfl rfl rfl (Nat.le_of_ble_eq_true rfl) rfl dX8_addTextTo_5 ?_
  obtain ⟨r4, h3, hf⟩ := kB hf
  refine j_callI (pc := 8) X (c_X6_isOneWord N C r2 h3) gX8_addTextTo_X6_isOneWord rfl ⟨rfl, rfl⟩ rfl hd_X6_isOneWord ⟨(Nat.le_of_ble_eq_true rfl), (Nat.le_of_ble_eq_true rfl)⟩ (wc6 kd_1) rfl rfl rfl (Nat.le_of_ble_eq_true rfl) rfl dX8_addTextTo_8 ?_
  refine j_if_eq (tgt := 25) (pc := 11) X dX8_addTextTo_11 rfl (fun c5 => ?_) (fun c5 => ?_)
  · have hf := kT c5 hf
    refine j_bipush (pc := 25) X dX8_addTextTo_25 kb_m12 ?_
    exact j_retW hR dX8_addTextTo_27 hf
  · have hf := kF c5 hf
    refine j_aload_n (pc := 14) X dX8_addTextTo_14 rfl ?_
    refine j_aload_n (pc := 15) X dX8_addTextTo_15 rfl ?_
    refine j_get (pc := 16) X iw_X8_addTextTo_X8 (wc8 kd_0) rfl 0 (Nat.le_of_ble_eq_true rfl) lk_X8_addTextTo_0 (v := .ref (ad 1)) rfl dX8_addTextTo_16 ?_
    obtain ⟨r7, h6, hf⟩ := kB hf
    refine j_callI (pc := 19) X (c_X7_hasWord N C k1 hk1 h6) gX8_addTextTo_X7_hasWord rfl ⟨rfl, rfl⟩ rfl hd_X7_hasWord ⟨(Nat.le_of_ble_eq_true rfl), (Nat.le_of_ble_eq_true rfl)⟩ (wc7 hk1) rfl rfl rfl (Nat.le_of_ble_eq_true rfl) rfl dX8_addTextTo_19 ?_
    refine j_if_eq (tgt := 28) (pc := 22) X dX8_addTextTo_22 rfl (fun c8 => ?_) (fun c8 => ?_)
    · have hf := kT c8 hf
      refine j_aload_n (pc := 28) X dX8_addTextTo_28 rfl ?_
      obtain ⟨r10, h9, hf⟩ := kB hf
      refine j_callI (pc := 29) X (c_X7_isFull N C k1 hk1 h9) gX8_addTextTo_X7_isFull rfl ⟨rfl, rfl⟩ rfl hd_X7_isFull ⟨(Nat.le_of_ble_eq_true rfl), (Nat.le_of_ble_eq_true rfl)⟩ (wc7 hk1) rfl rfl rfl (Nat.le_of_ble_eq_true rfl) rfl dX8_addTextTo_29 ?_
      refine j_if_eq (tgt := 38) (pc := 32) X dX8_addTextTo_32 rfl (fun c11 => ?_) (fun c11 => ?_)
      · have hf := kT c11 hf
        refine j_aload_n (pc := 38) X dX8_addTextTo_38 rfl ?_
        refine j_get (pc := 39) X iw_X8_addTextTo_X8 (wc8 kd_0) rfl 2 (Nat.le_of_ble_eq_true rfl) lk_X8_addTextTo_1 (v := .ref (ad 24)) rfl dX8_addTextTo_39 ?_
        refine j_aload_n (pc := 42) X dX8_addTextTo_42 rfl ?_
        refine j_get (pc := 43) X iw_X8_addTextTo_X8 (wc8 kd_0) rfl 1 (Nat.le_of_ble_eq_true rfl) lk_X8_addTextTo_2 (v := .ref (ad 4)) rfl dX8_addTextTo_43 ?_
        obtain ⟨C13, h12, hf⟩ := kB hf
        refine j_callV (pc := 46) X Y (c_X2_keep hI N C  h12) gX8_addTextTo_X2_keep rfl ⟨rfl, rfl⟩ rfl hd_X2_keep ⟨(Nat.le_of_ble_eq_true rfl), (Nat.le_of_ble_eq_true rfl)⟩ (wc2 kd_24) rfl rfl rfl (Nat.le_of_ble_eq_true rfl) rfl dX8_addTextTo_46 ?_
        refine j_aload_n (pc := 49) X dX8_addTextTo_49 rfl ?_
        refine j_aload_n (pc := 50) X dX8_addTextTo_50 rfl ?_
        refine j_get (pc := 51) X iw_X8_addTextTo_X8 (wc8 kd_0) rfl 0 (Nat.le_of_ble_eq_true rfl) lk_X8_addTextTo_0 (v := .ref (ad 1)) rfl dX8_addTextTo_51 ?_
        obtain ⟨C15, h14, hf⟩ := kB hf
        refine j_callV (pc := 54) X Y (c_X7_addWordsOf hI N C13 k1 hk1 h14) gX8_addTextTo_X7_addWordsOf rfl ⟨rfl, rfl⟩ rfl hd_X7_addWordsOf ⟨(Nat.le_of_ble_eq_true rfl), (Nat.le_of_ble_eq_true rfl)⟩ (wc7 hk1) rfl rfl rfl (Nat.le_of_ble_eq_true rfl) rfl dX8_addTextTo_54 ?_
        refine j_aload_n (pc := 57) X dX8_addTextTo_57 rfl ?_
        obtain ⟨C17, h16, hf⟩ := kB hf
        refine j_callV (pc := 58) X Y (c_X8_workOut hI N C15  h16) gX8_addTextTo_X8_workOut rfl ⟨rfl, rfl⟩ rfl hd_X8_workOut ⟨(Nat.le_of_ble_eq_true rfl), (Nat.le_of_ble_eq_true rfl)⟩ (wc8 kd_0) rfl rfl rfl (Nat.le_of_ble_eq_true rfl) rfl dX8_addTextTo_58 ?_
        refine j_aload_n (pc := 61) X dX8_addTextTo_61 rfl ?_
        obtain ⟨r19, h18, hf⟩ := kB hf
        refine j_callI (pc := 62) X (c_X7_size N C17 k1 hk1 h18) gX8_addTextTo_X7_size rfl ⟨rfl, rfl⟩ rfl hd_X7_size ⟨(Nat.le_of_ble_eq_true rfl), (Nat.le_of_ble_eq_true rfl)⟩ (wc7 hk1) rfl rfl rfl (Nat.le_of_ble_eq_true rfl) rfl dX8_addTextTo_62 ?_
        refine j_iconst (pc := 65) X dX8_addTextTo_65 kc_1 ?_
        refine j_isub (pc := 66) X dX8_addTextTo_66 ?_
        exact j_retW hR dX8_addTextTo_67 hf
      · have hf := kF c11 hf
        refine j_bipush (pc := 35) X dX8_addTextTo_35 kb_m13 ?_
        exact j_retW hR dX8_addTextTo_37 hf
    · have hf := kF c8 hf
      refine j_bipush (pc := 25) X dX8_addTextTo_25 kb_m12 ?_
      exact j_retW hR dX8_addTextTo_27 hf
theorem c_X8_addTextTo {l : Launch} {D : va_G} {cI cS : ClassId} {ad : Nat → Nat} (hI : kInj 132 ad) (N : Nat) (C : kS) (k1 : Nat) (hk1 : kd k1 = 7) {r : Int32} {Cr : kS} (hf : f_X8_addTextTo N C k1 = some (r, Cr)) : mW l yX8_addTextTo wsX8_addTextTo rm_X8_addTextTo D cI cS (WC cI cS ad) (kAd 132 ad) C [.ref (ad 0), .ref (ad k1)] r Cr :=
  mW.of (by decide) rfl rfl (Nat.le_of_ble_eq_true rfl) (WC_D hI) (fun g X Y hR => t_X8_addTextTo X hI Y hR N C k1 hk1 hf)
abbrev rm_X8_clearText : Room := { frames := 1, cells := 0, slots := 0, locals := 20 }
theorem lk_X8_clearText_0 : Cond.fieldLink RX8 12 "BlackBars" "text" "LBlackBars$Text;" ∈ wsX8_clearText := List.mem_of_getElem? (i := 1) rfl
theorem iw_X8_clearText_X8 : ∀ w ∈ wsX80, w ∈ wsX8_clearText := fun _ h => List.mem_cons_of_mem _ (List.mem_append_left _ (List.mem_append_right _ h))
theorem hd_X8_clearText : kHd yX8_clearText 0 := by decide +kernel
set_option maxHeartbeats 4000000 in
set_option maxRecDepth 100000 in
theorem t_X8_clearText {g : kG} {cI cS : ClassId} {ad : Nat → Nat} (X : Kx g cI cS cX8_clearText RX8 wsX8_clearText 2 rm_X8_clearText) {r : Int32} {Cr : kS} (hI : kInj 132 ad) (Y : Kw g (WC cI cS ad) (kAd 132 ad)) (hR : kRI g (WC cI cS ad) 2 cX8_clearText .int Cr r) (N : Nat) (C : kS)   (hf : f_X8_clearText N C = some (r, Cr)) : J g (WC cI cS ad) 2 C 0 [some (.ref (ad 0)), none] [] := by
  unfold f_X8_clearText at hf
  refine j_aload_n (pc := 0) X dX8_clearText_0 rfl ?_
  refine j_get (pc := 1) X iw_X8_clearText_X8 (wc8 kd_0) rfl 0 (Nat.le_of_ble_eq_true rfl) lk_X8_clearText_0 (v := .ref (ad 1)) rfl dX8_clearText_1 ?_
  obtain ⟨r2, h1, hf⟩ := kB hf
  refine j_callI (pc := 4) X (c_X6_size N C  h1) gX8_clearText_X6_size rfl ⟨rfl, rfl⟩ rfl hd_X6_size ⟨(Nat.le_of_ble_eq_true rfl), (Nat.le_of_ble_eq_true rfl)⟩ (wc6 kd_1) rfl rfl rfl (Nat.le_of_ble_eq_true rfl) rfl dX8_clearText_4 ?_
  refine j_istore_n (pc := 7) X dX8_clearText_7 (Nat.le_of_ble_eq_true rfl) (lv' := [some (.ref (ad 0)), some (.int r2)]) rfl ?_
  refine j_aload_n (pc := 8) X dX8_clearText_8 rfl ?_
  refine j_get (pc := 9) X iw_X8_clearText_X8 (wc8 kd_0) rfl 0 (Nat.le_of_ble_eq_true rfl) lk_X8_clearText_0 (v := .ref (ad 1)) rfl dX8_clearText_9 ?_
  obtain ⟨C4, h3, hf⟩ := kB hf
  refine j_callV (pc := 12) X Y (c_X6_empty hI N C  h3) gX8_clearText_X6_empty rfl ⟨rfl, rfl⟩ rfl hd_X6_empty ⟨(Nat.le_of_ble_eq_true rfl), (Nat.le_of_ble_eq_true rfl)⟩ (wc6 kd_1) rfl rfl rfl (Nat.le_of_ble_eq_true rfl) rfl dX8_clearText_12 ?_
  refine j_iload_n (pc := 15) X dX8_clearText_15 rfl ?_
  exact j_retW hR dX8_clearText_16 hf
theorem c_X8_clearText {l : Launch} {D : va_G} {cI cS : ClassId} {ad : Nat → Nat} (hI : kInj 132 ad) (N : Nat) (C : kS)  {r : Int32} {Cr : kS} (hf : f_X8_clearText N C = some (r, Cr)) : mW l yX8_clearText wsX8_clearText rm_X8_clearText D cI cS (WC cI cS ad) (kAd 132 ad) C [.ref (ad 0)] r Cr :=
  mW.of (by decide) rfl rfl (Nat.le_of_ble_eq_true rfl) (WC_D hI) (fun g X Y hR => t_X8_clearText X hI Y hR N C   hf)
abbrev rm_X8_count : Room := { frames := 4, cells := 0, slots := 0, locals := 89 }
theorem lk_X8_count_0 : Cond.fieldLink RX8 19 "BlackBars" "state" "LBlackBars$State;" ∈ wsX8_count := List.mem_of_getElem? (i := 1) rfl
theorem iw_X8_count_X8 : ∀ w ∈ wsX80, w ∈ wsX8_count := fun _ h => List.mem_cons_of_mem _ (List.mem_append_left _ (List.mem_append_left _ (List.mem_append_left _ (List.mem_append_left _ (List.mem_append_left _ (List.mem_append_left _ (List.mem_append_left _ (List.mem_append_left _ (List.mem_append_right _ h)))))))))
theorem iw_X8_count_X5 : ∀ w ∈ wsX50, w ∈ wsX8_count := fun _ h => List.mem_cons_of_mem _ (List.mem_append_left _ (List.mem_append_left _ (List.mem_append_left _ (List.mem_append_left _ (List.mem_append_left _ (List.mem_append_left _ (List.mem_append_left _ (List.mem_append_right _ h))))))))
theorem lk_X8_count_1 : Cond.fieldLink RX8 54 "BlackBars" "sheet" "LBlackBars$Sheet;" ∈ wsX8_count := List.mem_of_getElem? (i := 2) rfl
theorem lk_X8_count_2 : Cond.fieldLink RX8 33 "BlackBars" "forms" "LBlackBars$Forms;" ∈ wsX8_count := List.mem_of_getElem? (i := 3) rfl
theorem lk_X8_count_3 : Cond.fieldLink RX8 42 "BlackBars" "bars" "LBlackBars$Bars;" ∈ wsX8_count := List.mem_of_getElem? (i := 4) rfl
theorem lk_X8_count_4 : Cond.fieldLink RX8 26 "BlackBars" "history" "LBlackBars$History;" ∈ wsX8_count := List.mem_of_getElem? (i := 5) rfl
theorem lk_X8_count_5 : Cond.fieldLink RX8 12 "BlackBars" "text" "LBlackBars$Text;" ∈ wsX8_count := List.mem_of_getElem? (i := 6) rfl
theorem hd_X8_count : kHd yX8_count 1 := by decide +kernel
set_option maxHeartbeats 4000000 in
set_option maxRecDepth 100000 in
theorem t_X8_count {g : kG} {cI cS : ClassId} {ad : Nat → Nat} {C : kS} (X : Kx g cI cS cX8_count RX8 wsX8_count 2 rm_X8_count) {r : Int32} (hR : kRI g (WC cI cS ad) 2 cX8_count .int C r) (N : Nat) (a1 : Int32)  (hf : f_X8_count N C a1 = some r) : J g (WC cI cS ad) 2 C 0 [some (.ref (ad 0)), some (.int a1)] [] := by
  unfold f_X8_count at hf
  refine j_iload_n (pc := 0) X dX8_count_0 rfl ?_
  rcases Decidable.em (a1 = 0) with c1 | c1
  · have hf := kT c1 hf
    refine j_tabIn (v := 0) (off := 83) (tgt := 84) (pc := 1) X dX8_count_1 c1 (by decide) (by decide) (by decide) rfl ?_
    refine j_aload_n (pc := 84) X dX8_count_84 rfl ?_
    refine j_get (pc := 85) X iw_X8_count_X8 (wc8 kd_0) rfl 1 (Nat.le_of_ble_eq_true rfl) lk_X8_count_0 (v := .ref (ad 4)) rfl dX8_count_85 ?_
    refine j_getN (pc := 88) X iw_X8_count_X5 (wc5 kd_4) rfl 0 (Nat.le_of_ble_eq_true rfl) (List.mem_of_getElem? (i := 3) rfl) (v := .ref (ad 5)) rfl dX8_count_88 ?_
    obtain ⟨r3, h2, hf⟩ := kB hf
    refine j_callI (pc := 91) X (c_X7_size N C 5 (kd5_1 kd_4 : kd 5 = 7) h2) gX8_count_X7_size rfl ⟨rfl, rfl⟩ rfl hd_X7_size ⟨(Nat.le_of_ble_eq_true rfl), (Nat.le_of_ble_eq_true rfl)⟩ (wc7 (kd5_1 kd_4 : kd 5 = 7)) rfl rfl rfl (Nat.le_of_ble_eq_true rfl) rfl dX8_count_91 ?_
    exact j_retI hR dX8_count_94 hf
  · have hf := kF c1 hf
    rcases Decidable.em (a1 = 1) with c4 | c4
    · have hf := kT c4 hf
      refine j_tabIn (v := 1) (off := 94) (tgt := 95) (pc := 1) X dX8_count_1 c4 (by decide) (by decide) (by decide) rfl ?_
      refine j_aload_n (pc := 95) X dX8_count_95 rfl ?_
      refine j_get (pc := 96) X iw_X8_count_X8 (wc8 kd_0) rfl 6 (Nat.le_of_ble_eq_true rfl) lk_X8_count_1 (v := .ref (ad 119)) rfl dX8_count_96 ?_
      refine j_iconst (pc := 99) X dX8_count_99 kc_0 ?_
      refine j_aload_n (pc := 100) X dX8_count_100 rfl ?_
      refine j_get (pc := 101) X iw_X8_count_X8 (wc8 kd_0) rfl 1 (Nat.le_of_ble_eq_true rfl) lk_X8_count_0 (v := .ref (ad 4)) rfl dX8_count_101 ?_
      refine j_getN (pc := 104) X iw_X8_count_X5 (wc5 kd_4) rfl 0 (Nat.le_of_ble_eq_true rfl) (List.mem_of_getElem? (i := 3) rfl) (v := .ref (ad 5)) rfl dX8_count_104 ?_
      obtain ⟨r6, h5, hf⟩ := kB hf
      refine j_callI (pc := 107) X (c_X7_size N C 5 (kd5_1 kd_4 : kd 5 = 7) h5) gX8_count_X7_size rfl ⟨rfl, rfl⟩ rfl hd_X7_size ⟨(Nat.le_of_ble_eq_true rfl), (Nat.le_of_ble_eq_true rfl)⟩ (wc7 (kd5_1 kd_4 : kd 5 = 7)) rfl rfl rfl (Nat.le_of_ble_eq_true rfl) rfl dX8_count_107 ?_
      obtain ⟨r8, h7, hf⟩ := kB hf
      refine j_callI (pc := 110) X (c_X4_barsBetween N C 0 r6 h7) gX8_count_X4_barsBetween rfl ⟨rfl, rfl⟩ rfl hd_X4_barsBetween ⟨(Nat.le_of_ble_eq_true rfl), (Nat.le_of_ble_eq_true rfl)⟩ (wc4 kd_119) rfl rfl rfl (Nat.le_of_ble_eq_true rfl) rfl dX8_count_110 ?_
      exact j_retI hR dX8_count_113 hf
    · have hf := kF c4 hf
      rcases Decidable.em (a1 = 2) with c9 | c9
      · have hf := kT c9 hf
        refine j_tabIn (v := 2) (off := 113) (tgt := 114) (pc := 1) X dX8_count_1 c9 (by decide) (by decide) (by decide) rfl ?_
        refine j_aload_n (pc := 114) X dX8_count_114 rfl ?_
        refine j_get (pc := 115) X iw_X8_count_X8 (wc8 kd_0) rfl 6 (Nat.le_of_ble_eq_true rfl) lk_X8_count_1 (v := .ref (ad 119)) rfl dX8_count_115 ?_
        obtain ⟨r11, h10, hf⟩ := kB hf
        refine j_callI (pc := 118) X (c_X4_lineCount N C  h10) gX8_count_X4_lineCount rfl ⟨rfl, rfl⟩ rfl hd_X4_lineCount ⟨(Nat.le_of_ble_eq_true rfl), (Nat.le_of_ble_eq_true rfl)⟩ (wc4 kd_119) rfl rfl rfl (Nat.le_of_ble_eq_true rfl) rfl dX8_count_118 ?_
        exact j_retI hR dX8_count_121 hf
      · have hf := kF c9 hf
        rcases Decidable.em (a1 = 3) with c12 | c12
        · have hf := kT c12 hf
          refine j_tabIn (v := 3) (off := 121) (tgt := 122) (pc := 1) X dX8_count_1 c12 (by decide) (by decide) (by decide) rfl ?_
          refine j_aload_n (pc := 122) X dX8_count_122 rfl ?_
          refine j_get (pc := 123) X iw_X8_count_X8 (wc8 kd_0) rfl 1 (Nat.le_of_ble_eq_true rfl) lk_X8_count_0 (v := .ref (ad 4)) rfl dX8_count_123 ?_
          refine j_getN (pc := 126) X iw_X8_count_X5 (wc5 kd_4) rfl 1 (Nat.le_of_ble_eq_true rfl) (List.mem_of_getElem? (i := 4) rfl) (v := .ref (ad 10)) rfl dX8_count_126 ?_
          obtain ⟨r14, h13, hf⟩ := kB hf
          refine j_callI (pc := 129) X (c_X7_size N C 10 (kd5_6 kd_4 : kd 10 = 7) h13) gX8_count_X7_size rfl ⟨rfl, rfl⟩ rfl hd_X7_size ⟨(Nat.le_of_ble_eq_true rfl), (Nat.le_of_ble_eq_true rfl)⟩ (wc7 (kd5_6 kd_4 : kd 10 = 7)) rfl rfl rfl (Nat.le_of_ble_eq_true rfl) rfl dX8_count_129 ?_
          exact j_retI hR dX8_count_132 hf
        · have hf := kF c12 hf
          rcases Decidable.em (a1 = 4) with c15 | c15
          · have hf := kT c15 hf
            refine j_tabIn (v := 4) (off := 132) (tgt := 133) (pc := 1) X dX8_count_1 c15 (by decide) (by decide) (by decide) rfl ?_
            refine j_aload_n (pc := 133) X dX8_count_133 rfl ?_
            refine j_get (pc := 134) X iw_X8_count_X8 (wc8 kd_0) rfl 1 (Nat.le_of_ble_eq_true rfl) lk_X8_count_0 (v := .ref (ad 4)) rfl dX8_count_134 ?_
            refine j_getN (pc := 137) X iw_X8_count_X5 (wc5 kd_4) rfl 2 (Nat.le_of_ble_eq_true rfl) (List.mem_of_getElem? (i := 0) rfl) (v := .ref (ad 15)) rfl dX8_count_137 ?_
            obtain ⟨r17, h16, hf⟩ := kB hf
            refine j_callI (pc := 140) X (c_X7_size N C 15 (kd5_11 kd_4 : kd 15 = 7) h16) gX8_count_X7_size rfl ⟨rfl, rfl⟩ rfl hd_X7_size ⟨(Nat.le_of_ble_eq_true rfl), (Nat.le_of_ble_eq_true rfl)⟩ (wc7 (kd5_11 kd_4 : kd 15 = 7)) rfl rfl rfl (Nat.le_of_ble_eq_true rfl) rfl dX8_count_140 ?_
            exact j_retI hR dX8_count_143 hf
          · have hf := kF c15 hf
            rcases Decidable.em (a1 = 5) with c18 | c18
            · have hf := kT c18 hf
              refine j_tabIn (v := 5) (off := 143) (tgt := 144) (pc := 1) X dX8_count_1 c18 (by decide) (by decide) (by decide) rfl ?_
              refine j_aload_n (pc := 144) X dX8_count_144 rfl ?_
              refine j_get (pc := 145) X iw_X8_count_X8 (wc8 kd_0) rfl 3 (Nat.le_of_ble_eq_true rfl) lk_X8_count_2 (v := .ref (ad 106)) rfl dX8_count_145 ?_
              obtain ⟨r20, h19, hf⟩ := kB hf
              refine j_callI (pc := 148) X (c_X1_size N C  h19) gX8_count_X1_size rfl ⟨rfl, rfl⟩ rfl hd_X1_size ⟨(Nat.le_of_ble_eq_true rfl), (Nat.le_of_ble_eq_true rfl)⟩ (wc1 kd_106) rfl rfl rfl (Nat.le_of_ble_eq_true rfl) rfl dX8_count_148 ?_
              exact j_retI hR dX8_count_151 hf
            · have hf := kF c18 hf
              rcases Decidable.em (a1 = 6) with c21 | c21
              · have hf := kT c21 hf
                refine j_tabIn (v := 6) (off := 151) (tgt := 152) (pc := 1) X dX8_count_1 c21 (by decide) (by decide) (by decide) rfl ?_
                refine j_aload_n (pc := 152) X dX8_count_152 rfl ?_
                refine j_get (pc := 153) X iw_X8_count_X8 (wc8 kd_0) rfl 1 (Nat.le_of_ble_eq_true rfl) lk_X8_count_0 (v := .ref (ad 4)) rfl dX8_count_153 ?_
                refine j_getN (pc := 156) X iw_X8_count_X5 (wc5 kd_4) rfl 4 (Nat.le_of_ble_eq_true rfl) (List.mem_of_getElem? (i := 2) rfl) (v := .ref (ad 22)) rfl dX8_count_156 ?_
                refine j_iconst (pc := 159) X dX8_count_159 kc_0 ?_
                obtain ⟨r23, h22, hf⟩ := kB hf
                refine j_callI (pc := 160) X (c_X3_at N C 22 (kd5_18 kd_4 : kd 22 = 3) 0 h22) gX8_count_X3_at rfl ⟨rfl, rfl⟩ rfl hd_X3_at ⟨(Nat.le_of_ble_eq_true rfl), (Nat.le_of_ble_eq_true rfl)⟩ (wc3 (kd5_18 kd_4 : kd 22 = 3)) rfl rfl rfl (Nat.le_of_ble_eq_true rfl) rfl dX8_count_160 ?_
                exact j_retI hR dX8_count_163 hf
              · have hf := kF c21 hf
                rcases Decidable.em (a1 = 7) with c24 | c24
                · have hf := kT c24 hf
                  refine j_tabIn (v := 7) (off := 163) (tgt := 164) (pc := 1) X dX8_count_1 c24 (by decide) (by decide) (by decide) rfl ?_
                  refine j_aload_n (pc := 164) X dX8_count_164 rfl ?_
                  refine j_get (pc := 165) X iw_X8_count_X8 (wc8 kd_0) rfl 1 (Nat.le_of_ble_eq_true rfl) lk_X8_count_0 (v := .ref (ad 4)) rfl dX8_count_165 ?_
                  refine j_getN (pc := 168) X iw_X8_count_X5 (wc5 kd_4) rfl 4 (Nat.le_of_ble_eq_true rfl) (List.mem_of_getElem? (i := 2) rfl) (v := .ref (ad 22)) rfl dX8_count_168 ?_
                  refine j_iconst (pc := 171) X dX8_count_171 kc_1 ?_
                  obtain ⟨r26, h25, hf⟩ := kB hf
                  refine j_callI (pc := 172) X (c_X3_at N C 22 (kd5_18 kd_4 : kd 22 = 3) 1 h25) gX8_count_X3_at rfl ⟨rfl, rfl⟩ rfl hd_X3_at ⟨(Nat.le_of_ble_eq_true rfl), (Nat.le_of_ble_eq_true rfl)⟩ (wc3 (kd5_18 kd_4 : kd 22 = 3)) rfl rfl rfl (Nat.le_of_ble_eq_true rfl) rfl dX8_count_172 ?_
                  exact j_retI hR dX8_count_175 hf
                · have hf := kF c24 hf
                  rcases Decidable.em (a1 = 8) with c27 | c27
                  · have hf := kT c27 hf
                    refine j_tabIn (v := 8) (off := 175) (tgt := 176) (pc := 1) X dX8_count_1 c27 (by decide) (by decide) (by decide) rfl ?_
                    refine j_aload_n (pc := 176) X dX8_count_176 rfl ?_
                    refine j_get (pc := 177) X iw_X8_count_X8 (wc8 kd_0) rfl 1 (Nat.le_of_ble_eq_true rfl) lk_X8_count_0 (v := .ref (ad 4)) rfl dX8_count_177 ?_
                    refine j_getN (pc := 180) X iw_X8_count_X5 (wc5 kd_4) rfl 4 (Nat.le_of_ble_eq_true rfl) (List.mem_of_getElem? (i := 2) rfl) (v := .ref (ad 22)) rfl dX8_count_180 ?_
                    refine j_iconst (pc := 183) X dX8_count_183 kc_2 ?_
                    obtain ⟨r29, h28, hf⟩ := kB hf
                    refine j_callI (pc := 184) X (c_X3_at N C 22 (kd5_18 kd_4 : kd 22 = 3) 2 h28) gX8_count_X3_at rfl ⟨rfl, rfl⟩ rfl hd_X3_at ⟨(Nat.le_of_ble_eq_true rfl), (Nat.le_of_ble_eq_true rfl)⟩ (wc3 (kd5_18 kd_4 : kd 22 = 3)) rfl rfl rfl (Nat.le_of_ble_eq_true rfl) rfl dX8_count_184 ?_
                    exact j_retI hR dX8_count_187 hf
                  · have hf := kF c27 hf
                    rcases Decidable.em (a1 = 9) with c30 | c30
                    · have hf := kT c30 hf
                      refine j_tabIn (v := 9) (off := 187) (tgt := 188) (pc := 1) X dX8_count_1 c30 (by decide) (by decide) (by decide) rfl ?_
                      refine j_aload_n (pc := 188) X dX8_count_188 rfl ?_
                      refine j_get (pc := 189) X iw_X8_count_X8 (wc8 kd_0) rfl 1 (Nat.le_of_ble_eq_true rfl) lk_X8_count_0 (v := .ref (ad 4)) rfl dX8_count_189 ?_
                      refine j_getN (pc := 192) X iw_X8_count_X5 (wc5 kd_4) rfl 4 (Nat.le_of_ble_eq_true rfl) (List.mem_of_getElem? (i := 2) rfl) (v := .ref (ad 22)) rfl dX8_count_192 ?_
                      refine j_iconst (pc := 195) X dX8_count_195 kc_3 ?_
                      obtain ⟨r32, h31, hf⟩ := kB hf
                      refine j_callI (pc := 196) X (c_X3_at N C 22 (kd5_18 kd_4 : kd 22 = 3) 3 h31) gX8_count_X3_at rfl ⟨rfl, rfl⟩ rfl hd_X3_at ⟨(Nat.le_of_ble_eq_true rfl), (Nat.le_of_ble_eq_true rfl)⟩ (wc3 (kd5_18 kd_4 : kd 22 = 3)) rfl rfl rfl (Nat.le_of_ble_eq_true rfl) rfl dX8_count_196 ?_
                      exact j_retI hR dX8_count_199 hf
                    · have hf := kF c30 hf
                      rcases Decidable.em (a1 = 10) with c33 | c33
                      · have hf := kT c33 hf
                        refine j_tabIn (v := 10) (off := 199) (tgt := 200) (pc := 1) X dX8_count_1 c33 (by decide) (by decide) (by decide) rfl ?_
                        refine j_aload_n (pc := 200) X dX8_count_200 rfl ?_
                        refine j_get (pc := 201) X iw_X8_count_X8 (wc8 kd_0) rfl 1 (Nat.le_of_ble_eq_true rfl) lk_X8_count_0 (v := .ref (ad 4)) rfl dX8_count_201 ?_
                        refine j_getN (pc := 204) X iw_X8_count_X5 (wc5 kd_4) rfl 4 (Nat.le_of_ble_eq_true rfl) (List.mem_of_getElem? (i := 2) rfl) (v := .ref (ad 22)) rfl dX8_count_204 ?_
                        refine j_iconst (pc := 207) X dX8_count_207 kc_4 ?_
                        obtain ⟨r35, h34, hf⟩ := kB hf
                        refine j_callI (pc := 208) X (c_X3_at N C 22 (kd5_18 kd_4 : kd 22 = 3) 4 h34) gX8_count_X3_at rfl ⟨rfl, rfl⟩ rfl hd_X3_at ⟨(Nat.le_of_ble_eq_true rfl), (Nat.le_of_ble_eq_true rfl)⟩ (wc3 (kd5_18 kd_4 : kd 22 = 3)) rfl rfl rfl (Nat.le_of_ble_eq_true rfl) rfl dX8_count_208 ?_
                        exact j_retI hR dX8_count_211 hf
                      · have hf := kF c33 hf
                        rcases Decidable.em (a1 = 11) with c36 | c36
                        · have hf := kT c36 hf
                          refine j_tabIn (v := 11) (off := 211) (tgt := 212) (pc := 1) X dX8_count_1 c36 (by decide) (by decide) (by decide) rfl ?_
                          refine j_aload_n (pc := 212) X dX8_count_212 rfl ?_
                          refine j_get (pc := 213) X iw_X8_count_X8 (wc8 kd_0) rfl 6 (Nat.le_of_ble_eq_true rfl) lk_X8_count_1 (v := .ref (ad 119)) rfl dX8_count_213 ?_
                          refine j_aload_n (pc := 216) X dX8_count_216 rfl ?_
                          refine j_get (pc := 217) X iw_X8_count_X8 (wc8 kd_0) rfl 4 (Nat.le_of_ble_eq_true rfl) lk_X8_count_3 (v := .ref (ad 113)) rfl dX8_count_217 ?_
                          obtain ⟨r38, h37, hf⟩ := kB hf
                          refine j_callI (pc := 220) X (c_X4_betrayedBars N C 113 kd_113 h37) gX8_count_X4_betrayedBars rfl ⟨rfl, rfl⟩ rfl hd_X4_betrayedBars ⟨(Nat.le_of_ble_eq_true rfl), (Nat.le_of_ble_eq_true rfl)⟩ (wc4 kd_119) rfl rfl rfl (Nat.le_of_ble_eq_true rfl) rfl dX8_count_220 ?_
                          exact j_retI hR dX8_count_223 hf
                        · have hf := kF c36 hf
                          rcases Decidable.em (a1 = 12) with c39 | c39
                          · have hf := kT c39 hf
                            refine j_tabIn (v := 12) (off := 223) (tgt := 224) (pc := 1) X dX8_count_1 c39 (by decide) (by decide) (by decide) rfl ?_
                            refine j_aload_n (pc := 224) X dX8_count_224 rfl ?_
                            refine j_get (pc := 225) X iw_X8_count_X8 (wc8 kd_0) rfl 6 (Nat.le_of_ble_eq_true rfl) lk_X8_count_1 (v := .ref (ad 119)) rfl dX8_count_225 ?_
                            refine j_aload_n (pc := 228) X dX8_count_228 rfl ?_
                            refine j_get (pc := 229) X iw_X8_count_X8 (wc8 kd_0) rfl 4 (Nat.le_of_ble_eq_true rfl) lk_X8_count_3 (v := .ref (ad 113)) rfl dX8_count_229 ?_
                            obtain ⟨r41, h40, hf⟩ := kB hf
                            refine j_callI (pc := 232) X (c_X4_sumOfShownWidths N C 113 kd_113 h40) gX8_count_X4_sumOfShownWidths rfl ⟨rfl, rfl⟩ rfl hd_X4_sumOfShownWidths ⟨(Nat.le_of_ble_eq_true rfl), (Nat.le_of_ble_eq_true rfl)⟩ (wc4 kd_119) rfl rfl rfl (Nat.le_of_ble_eq_true rfl) rfl dX8_count_232 ?_
                            exact j_retI hR dX8_count_235 hf
                          · have hf := kF c39 hf
                            rcases Decidable.em (a1 = 13) with c42 | c42
                            · have hf := kT c42 hf
                              refine j_tabIn (v := 13) (off := 235) (tgt := 236) (pc := 1) X dX8_count_1 c42 (by decide) (by decide) (by decide) rfl ?_
                              refine j_aload_n (pc := 236) X dX8_count_236 rfl ?_
                              refine j_get (pc := 237) X iw_X8_count_X8 (wc8 kd_0) rfl 6 (Nat.le_of_ble_eq_true rfl) lk_X8_count_1 (v := .ref (ad 119)) rfl dX8_count_237 ?_
                              refine j_aload_n (pc := 240) X dX8_count_240 rfl ?_
                              refine j_get (pc := 241) X iw_X8_count_X8 (wc8 kd_0) rfl 4 (Nat.le_of_ble_eq_true rfl) lk_X8_count_3 (v := .ref (ad 113)) rfl dX8_count_241 ?_
                              obtain ⟨r44, h43, hf⟩ := kB hf
                              refine j_callI (pc := 244) X (c_X4_sumOfGaps N C 113 kd_113 h43) gX8_count_X4_sumOfGaps rfl ⟨rfl, rfl⟩ rfl hd_X4_sumOfGaps ⟨(Nat.le_of_ble_eq_true rfl), (Nat.le_of_ble_eq_true rfl)⟩ (wc4 kd_119) rfl rfl rfl (Nat.le_of_ble_eq_true rfl) rfl dX8_count_244 ?_
                              exact j_retI hR dX8_count_247 hf
                            · have hf := kF c42 hf
                              rcases Decidable.em (a1 = 14) with c45 | c45
                              · have hf := kT c45 hf
                                refine j_tabIn (v := 14) (off := 247) (tgt := 248) (pc := 1) X dX8_count_1 c45 (by decide) (by decide) (by decide) rfl ?_
                                refine j_aload_n (pc := 248) X dX8_count_248 rfl ?_
                                refine j_get (pc := 249) X iw_X8_count_X8 (wc8 kd_0) rfl 6 (Nat.le_of_ble_eq_true rfl) lk_X8_count_1 (v := .ref (ad 119)) rfl dX8_count_249 ?_
                                obtain ⟨r47, h46, hf⟩ := kB hf
                                refine j_callI (pc := 252) X (c_X4_differentBarWidths N C  h46) gX8_count_X4_differentBarWidths rfl ⟨rfl, rfl⟩ rfl hd_X4_differentBarWidths ⟨(Nat.le_of_ble_eq_true rfl), (Nat.le_of_ble_eq_true rfl)⟩ (wc4 kd_119) rfl rfl rfl (Nat.le_of_ble_eq_true rfl) rfl dX8_count_252 ?_
                                exact j_retI hR dX8_count_255 hf
                              · have hf := kF c45 hf
                                rcases Decidable.em (a1 = 15) with c48 | c48
                                · have hf := kT c48 hf
                                  refine j_tabIn (v := 15) (off := 255) (tgt := 256) (pc := 1) X dX8_count_1 c48 (by decide) (by decide) (by decide) rfl ?_
                                  refine j_aload_n (pc := 256) X dX8_count_256 rfl ?_
                                  refine j_get (pc := 257) X iw_X8_count_X8 (wc8 kd_0) rfl 2 (Nat.le_of_ble_eq_true rfl) lk_X8_count_4 (v := .ref (ad 24)) rfl dX8_count_257 ?_
                                  obtain ⟨r50, h49, hf⟩ := kB hf
                                  refine j_callI (pc := 260) X (c_X2_size N C  h49) gX8_count_X2_size rfl ⟨rfl, rfl⟩ rfl hd_X2_size ⟨(Nat.le_of_ble_eq_true rfl), (Nat.le_of_ble_eq_true rfl)⟩ (wc2 kd_24) rfl rfl rfl (Nat.le_of_ble_eq_true rfl) rfl dX8_count_260 ?_
                                  exact j_retI hR dX8_count_263 hf
                                · have hf := kF c48 hf
                                  rcases Decidable.em (a1 = 16) with c51 | c51
                                  · have hf := kT c51 hf
                                    refine j_tabIn (v := 16) (off := 263) (tgt := 264) (pc := 1) X dX8_count_1 c51 (by decide) (by decide) (by decide) rfl ?_
                                    refine j_aload_n (pc := 264) X dX8_count_264 rfl ?_
                                    refine j_get (pc := 265) X iw_X8_count_X8 (wc8 kd_0) rfl 0 (Nat.le_of_ble_eq_true rfl) lk_X8_count_5 (v := .ref (ad 1)) rfl dX8_count_265 ?_
                                    obtain ⟨r53, h52, hf⟩ := kB hf
                                    refine j_callI (pc := 268) X (c_X6_size N C  h52) gX8_count_X6_size rfl ⟨rfl, rfl⟩ rfl hd_X6_size ⟨(Nat.le_of_ble_eq_true rfl), (Nat.le_of_ble_eq_true rfl)⟩ (wc6 kd_1) rfl rfl rfl (Nat.le_of_ble_eq_true rfl) rfl dX8_count_268 ?_
                                    exact j_retI hR dX8_count_271 hf
                                  · have hf := kF c51 hf
                                    refine j_tabOut (tgt := 272) (pc := 1) X dX8_count_1 (by have gc1 := lv_neT (a := 0) c1 (by decide); have gc4 := lv_neT (a := 1) c4 (by decide); have gc9 := lv_neT (a := 2) c9 (by decide); have gc12 := lv_neT (a := 3) c12 (by decide); have gc15 := lv_neT (a := 4) c15 (by decide); have gc18 := lv_neT (a := 5) c18 (by decide); have gc21 := lv_neT (a := 6) c21 (by decide); have gc24 := lv_neT (a := 7) c24 (by decide); have gc27 := lv_neT (a := 8) c27 (by decide); have gc30 := lv_neT (a := 9) c30 (by decide); have gc33 := lv_neT (a := 10) c33 (by decide); have gc36 := lv_neT (a := 11) c36 (by decide); have gc39 := lv_neT (a := 12) c39 (by decide); have gc42 := lv_neT (a := 13) c42 (by decide); have gc45 := lv_neT (a := 14) c45 (by decide); have gc48 := lv_neT (a := 15) c48 (by decide); have gc51 := lv_neT (a := 16) c51 (by decide); omega) rfl ?_
                                    refine j_bipush (pc := 272) X dX8_count_272 kb_m11 ?_
                                    exact j_retI hR dX8_count_274 hf
theorem c_X8_count {l : Launch} {D : va_G} {cI cS : ClassId} {ad : Nat → Nat} (N : Nat) (C : kS) (a1 : Int32) {r : Int32} (hf : f_X8_count N C a1 = some r) : mI l yX8_count wsX8_count rm_X8_count D cI cS (WC cI cS ad) C [.ref (ad 0), .int a1] r :=
  mI.of (by decide) rfl rfl (Nat.le_of_ble_eq_true rfl) (fun g X hR => t_X8_count X  hR N a1  hf)
abbrev rm_X8_dropFrom : Room := { frames := 5, cells := 0, slots := 0, locals := 125 }
theorem lk_X8_dropFrom_0 : Cond.fieldLink RX8 26 "BlackBars" "history" "LBlackBars$History;" ∈ wsX8_dropFrom := List.mem_of_getElem? (i := 1) rfl
theorem iw_X8_dropFrom_X8 : ∀ w ∈ wsX80, w ∈ wsX8_dropFrom := fun _ h => List.mem_cons_of_mem _ (List.mem_append_left _ (List.mem_append_left _ (List.mem_append_left _ (List.mem_append_left _ (List.mem_append_left _ (List.mem_append_left _ (List.mem_append_left _ (List.mem_append_right _ h))))))))
theorem lk_X8_dropFrom_1 : Cond.fieldLink RX8 19 "BlackBars" "state" "LBlackBars$State;" ∈ wsX8_dropFrom := List.mem_of_getElem? (i := 2) rfl
theorem hd_X8_dropFrom : kHd yX8_dropFrom 2 := by decide +kernel
set_option maxHeartbeats 4000000 in
set_option maxRecDepth 100000 in
theorem t_X8_dropFrom {g : kG} {cI cS : ClassId} {ad : Nat → Nat} (X : Kx g cI cS cX8_dropFrom RX8 wsX8_dropFrom 3 rm_X8_dropFrom) {r : Int32} {Cr : kS} (hI : kInj 132 ad) (Y : Kw g (WC cI cS ad) (kAd 132 ad)) (hR : kRI g (WC cI cS ad) 3 cX8_dropFrom .int Cr r) (N : Nat) (C : kS) (k1 : Nat) (a2 : Int32) (hk1 : kd k1 = 7) (hf : f_X8_dropFrom N C k1 a2 = some (r, Cr)) : J g (WC cI cS ad) 3 C 0 [some (.ref (ad 0)), some (.ref (ad k1)), some (.int a2)] [] := by
  unfold f_X8_dropFrom at hf
  refine j_aload_n (pc := 0) X dX8_dropFrom_0 rfl ?_
  refine j_iload_n (pc := 1) X dX8_dropFrom_1 rfl ?_
  obtain ⟨r2, h1, hf⟩ := kB hf
  refine j_callI (pc := 2) X (c_X7_has N C k1 hk1 a2 h1) gX8_dropFrom_X7_has rfl ⟨rfl, rfl⟩ rfl hd_X7_has ⟨(Nat.le_of_ble_eq_true rfl), (Nat.le_of_ble_eq_true rfl)⟩ (wc7 hk1) rfl rfl rfl (Nat.le_of_ble_eq_true rfl) rfl dX8_dropFrom_2 ?_
  refine j_if_ne (tgt := 11) (pc := 5) X dX8_dropFrom_5 rfl (fun c3 => ?_) (fun c3 => ?_)
  · have hf := kF c3 hf
    refine j_aload_n (pc := 11) X dX8_dropFrom_11 rfl ?_
    refine j_get (pc := 12) X iw_X8_dropFrom_X8 (wc8 kd_0) rfl 2 (Nat.le_of_ble_eq_true rfl) lk_X8_dropFrom_0 (v := .ref (ad 24)) rfl dX8_dropFrom_12 ?_
    refine j_aload_n (pc := 15) X dX8_dropFrom_15 rfl ?_
    refine j_get (pc := 16) X iw_X8_dropFrom_X8 (wc8 kd_0) rfl 1 (Nat.le_of_ble_eq_true rfl) lk_X8_dropFrom_1 (v := .ref (ad 4)) rfl dX8_dropFrom_16 ?_
    obtain ⟨C5, h4, hf⟩ := kB hf
    refine j_callV (pc := 19) X Y (c_X2_keep hI N C  h4) gX8_dropFrom_X2_keep rfl ⟨rfl, rfl⟩ rfl hd_X2_keep ⟨(Nat.le_of_ble_eq_true rfl), (Nat.le_of_ble_eq_true rfl)⟩ (wc2 kd_24) rfl rfl rfl (Nat.le_of_ble_eq_true rfl) rfl dX8_dropFrom_19 ?_
    refine j_aload_n (pc := 22) X dX8_dropFrom_22 rfl ?_
    refine j_iload_n (pc := 23) X dX8_dropFrom_23 rfl ?_
    obtain ⟨C7, h6, hf⟩ := kB hf
    refine j_callV (pc := 24) X Y (c_X7_remove hI N C5 k1 hk1 a2 h6) gX8_dropFrom_X7_remove rfl ⟨rfl, rfl⟩ rfl hd_X7_remove ⟨(Nat.le_of_ble_eq_true rfl), (Nat.le_of_ble_eq_true rfl)⟩ (wc7 hk1) rfl rfl rfl (Nat.le_of_ble_eq_true rfl) rfl dX8_dropFrom_24 ?_
    refine j_aload_n (pc := 27) X dX8_dropFrom_27 rfl ?_
    obtain ⟨C9, h8, hf⟩ := kB hf
    refine j_callV (pc := 28) X Y (c_X8_workOut hI N C7  h8) gX8_dropFrom_X8_workOut rfl ⟨rfl, rfl⟩ rfl hd_X8_workOut ⟨(Nat.le_of_ble_eq_true rfl), (Nat.le_of_ble_eq_true rfl)⟩ (wc8 kd_0) rfl rfl rfl (Nat.le_of_ble_eq_true rfl) rfl dX8_dropFrom_28 ?_
    refine j_aload_n (pc := 31) X dX8_dropFrom_31 rfl ?_
    obtain ⟨r11, h10, hf⟩ := kB hf
    refine j_callI (pc := 32) X (c_X7_size N C9 k1 hk1 h10) gX8_dropFrom_X7_size rfl ⟨rfl, rfl⟩ rfl hd_X7_size ⟨(Nat.le_of_ble_eq_true rfl), (Nat.le_of_ble_eq_true rfl)⟩ (wc7 hk1) rfl rfl rfl (Nat.le_of_ble_eq_true rfl) rfl dX8_dropFrom_32 ?_
    exact j_retW hR dX8_dropFrom_35 hf
  · have hf := kT c3 hf
    refine j_bipush (pc := 8) X dX8_dropFrom_8 kb_m11 ?_
    exact j_retW hR dX8_dropFrom_10 hf
theorem c_X8_dropFrom {l : Launch} {D : va_G} {cI cS : ClassId} {ad : Nat → Nat} (hI : kInj 132 ad) (N : Nat) (C : kS) (k1 : Nat) (hk1 : kd k1 = 7) (a2 : Int32) {r : Int32} {Cr : kS} (hf : f_X8_dropFrom N C k1 a2 = some (r, Cr)) : mW l yX8_dropFrom wsX8_dropFrom rm_X8_dropFrom D cI cS (WC cI cS ad) (kAd 132 ad) C [.ref (ad 0), .ref (ad k1), .int a2] r Cr :=
  mW.of (by decide) rfl rfl (Nat.le_of_ble_eq_true rfl) (WC_D hI) (fun g X Y hR => t_X8_dropFrom X hI Y hR N C k1 a2 hk1 hf)
abbrev rm_X8_dropEnding : Room := { frames := 6, cells := 0, slots := 0, locals := 147 }
theorem lk_X8_dropEnding_0 : Cond.fieldLink RX8 19 "BlackBars" "state" "LBlackBars$State;" ∈ wsX8_dropEnding := List.mem_of_getElem? (i := 1) rfl
theorem iw_X8_dropEnding_X8 : ∀ w ∈ wsX80, w ∈ wsX8_dropEnding := fun _ h => List.mem_cons_of_mem _ (List.mem_append_left _ (List.mem_append_left _ (List.mem_append_left _ (List.mem_append_left _ (List.mem_append_left _ (List.mem_append_left _ (List.mem_append_left _ (List.mem_append_right _ h))))))))
theorem iw_X8_dropEnding_X5 : ∀ w ∈ wsX50, w ∈ wsX8_dropEnding := fun _ h => List.mem_cons_of_mem _ (List.mem_append_left _ (List.mem_append_left _ (List.mem_append_left _ (List.mem_append_left _ (List.mem_append_left _ (List.mem_append_left _ (List.mem_append_right _ h)))))))
theorem hd_X8_dropEnding : kHd yX8_dropEnding 1 := by decide +kernel
set_option maxHeartbeats 4000000 in
set_option maxRecDepth 100000 in
theorem t_X8_dropEnding {g : kG} {cI cS : ClassId} {ad : Nat → Nat} (X : Kx g cI cS cX8_dropEnding RX8 wsX8_dropEnding 2 rm_X8_dropEnding) {r : Int32} {Cr : kS} (hI : kInj 132 ad) (Y : Kw g (WC cI cS ad) (kAd 132 ad)) (hR : kRI g (WC cI cS ad) 2 cX8_dropEnding .int Cr r) (N : Nat) (C : kS) (a1 : Int32)  (hf : f_X8_dropEnding N C a1 = some (r, Cr)) : J g (WC cI cS ad) 2 C 0 [some (.ref (ad 0)), some (.int a1)] [] := by
  unfold f_X8_dropEnding at hf
  refine j_aload_n (pc := 0) X dX8_dropEnding_0 rfl ?_
  refine j_aload_n (pc := 1) X dX8_dropEnding_1 rfl ?_
  refine j_get (pc := 2) X iw_X8_dropEnding_X8 (wc8 kd_0) rfl 1 (Nat.le_of_ble_eq_true rfl) lk_X8_dropEnding_0 (v := .ref (ad 4)) rfl dX8_dropEnding_2 ?_
  refine j_getN (pc := 5) X iw_X8_dropEnding_X5 (wc5 kd_4) rfl 2 (Nat.le_of_ble_eq_true rfl) (List.mem_of_getElem? (i := 0) rfl) (v := .ref (ad 15)) rfl dX8_dropEnding_5 ?_
  refine j_iload_n (pc := 8) X dX8_dropEnding_8 rfl ?_
  obtain ⟨p2, h1, hf⟩ := kB hf
  refine j_callW (pc := 9) X Y (c_X8_dropFrom hI N C 15 (kd5_11 kd_4 : kd 15 = 7) a1 h1) gX8_dropEnding_X8_dropFrom rfl ⟨rfl, rfl⟩ rfl hd_X8_dropFrom ⟨(Nat.le_of_ble_eq_true rfl), (Nat.le_of_ble_eq_true rfl)⟩ (wc8 kd_0) rfl rfl rfl (Nat.le_of_ble_eq_true rfl) rfl dX8_dropEnding_9 ?_
  exact j_retW hR dX8_dropEnding_12 hf
theorem c_X8_dropEnding {l : Launch} {D : va_G} {cI cS : ClassId} {ad : Nat → Nat} (hI : kInj 132 ad) (N : Nat) (C : kS) (a1 : Int32) {r : Int32} {Cr : kS} (hf : f_X8_dropEnding N C a1 = some (r, Cr)) : mW l yX8_dropEnding wsX8_dropEnding rm_X8_dropEnding D cI cS (WC cI cS ad) (kAd 132 ad) C [.ref (ad 0), .int a1] r Cr :=
  mW.of (by decide) rfl rfl (Nat.le_of_ble_eq_true rfl) (WC_D hI) (fun g X Y hR => t_X8_dropEnding X hI Y hR N C a1  hf)
abbrev rm_X8_dropName : Room := { frames := 6, cells := 0, slots := 0, locals := 147 }
theorem lk_X8_dropName_0 : Cond.fieldLink RX8 19 "BlackBars" "state" "LBlackBars$State;" ∈ wsX8_dropName := List.mem_of_getElem? (i := 1) rfl
theorem iw_X8_dropName_X8 : ∀ w ∈ wsX80, w ∈ wsX8_dropName := fun _ h => List.mem_cons_of_mem _ (List.mem_append_left _ (List.mem_append_left _ (List.mem_append_left _ (List.mem_append_left _ (List.mem_append_left _ (List.mem_append_left _ (List.mem_append_left _ (List.mem_append_right _ h))))))))
theorem iw_X8_dropName_X5 : ∀ w ∈ wsX50, w ∈ wsX8_dropName := fun _ h => List.mem_cons_of_mem _ (List.mem_append_left _ (List.mem_append_left _ (List.mem_append_left _ (List.mem_append_left _ (List.mem_append_left _ (List.mem_append_left _ (List.mem_append_right _ h)))))))
theorem hd_X8_dropName : kHd yX8_dropName 1 := by decide +kernel
set_option maxHeartbeats 4000000 in
set_option maxRecDepth 100000 in
theorem t_X8_dropName {g : kG} {cI cS : ClassId} {ad : Nat → Nat} (X : Kx g cI cS cX8_dropName RX8 wsX8_dropName 2 rm_X8_dropName) {r : Int32} {Cr : kS} (hI : kInj 132 ad) (Y : Kw g (WC cI cS ad) (kAd 132 ad)) (hR : kRI g (WC cI cS ad) 2 cX8_dropName .int Cr r) (N : Nat) (C : kS) (a1 : Int32)  (hf : f_X8_dropName N C a1 = some (r, Cr)) : J g (WC cI cS ad) 2 C 0 [some (.ref (ad 0)), some (.int a1)] [] := by
  unfold f_X8_dropName at hf
  refine j_aload_n (pc := 0) X dX8_dropName_0 rfl ?_
  refine j_aload_n (pc := 1) X dX8_dropName_1 rfl ?_
  refine j_get (pc := 2) X iw_X8_dropName_X8 (wc8 kd_0) rfl 1 (Nat.le_of_ble_eq_true rfl) lk_X8_dropName_0 (v := .ref (ad 4)) rfl dX8_dropName_2 ?_
  refine j_getN (pc := 5) X iw_X8_dropName_X5 (wc5 kd_4) rfl 1 (Nat.le_of_ble_eq_true rfl) (List.mem_of_getElem? (i := 4) rfl) (v := .ref (ad 10)) rfl dX8_dropName_5 ?_
  refine j_iload_n (pc := 8) X dX8_dropName_8 rfl ?_
  obtain ⟨p2, h1, hf⟩ := kB hf
  refine j_callW (pc := 9) X Y (c_X8_dropFrom hI N C 10 (kd5_6 kd_4 : kd 10 = 7) a1 h1) gX8_dropName_X8_dropFrom rfl ⟨rfl, rfl⟩ rfl hd_X8_dropFrom ⟨(Nat.le_of_ble_eq_true rfl), (Nat.le_of_ble_eq_true rfl)⟩ (wc8 kd_0) rfl rfl rfl (Nat.le_of_ble_eq_true rfl) rfl dX8_dropName_9 ?_
  exact j_retW hR dX8_dropName_12 hf
theorem c_X8_dropName {l : Launch} {D : va_G} {cI cS : ClassId} {ad : Nat → Nat} (hI : kInj 132 ad) (N : Nat) (C : kS) (a1 : Int32) {r : Int32} {Cr : kS} (hf : f_X8_dropName N C a1 = some (r, Cr)) : mW l yX8_dropName wsX8_dropName rm_X8_dropName D cI cS (WC cI cS ad) (kAd 132 ad) C [.ref (ad 0), .int a1] r Cr :=
  mW.of (by decide) rfl rfl (Nat.le_of_ble_eq_true rfl) (WC_D hI) (fun g X Y hR => t_X8_dropName X hI Y hR N C a1  hf)
abbrev rm_X8_ending : Room := { frames := 6, cells := 0, slots := 0, locals := 146 }
theorem lk_X8_ending_0 : Cond.fieldLink RX8 19 "BlackBars" "state" "LBlackBars$State;" ∈ wsX8_ending := List.mem_of_getElem? (i := 1) rfl
theorem iw_X8_ending_X8 : ∀ w ∈ wsX80, w ∈ wsX8_ending := fun _ h => List.mem_cons_of_mem _ (List.mem_append_left _ (List.mem_append_left _ (List.mem_append_left _ (List.mem_append_left _ (List.mem_append_left _ (List.mem_append_left _ (List.mem_append_left _ (List.mem_append_left _ (List.mem_append_right _ h)))))))))
theorem iw_X8_ending_X5 : ∀ w ∈ wsX50, w ∈ wsX8_ending := fun _ h => List.mem_cons_of_mem _ (List.mem_append_left _ (List.mem_append_left _ (List.mem_append_left _ (List.mem_append_left _ (List.mem_append_left _ (List.mem_append_left _ (List.mem_append_left _ (List.mem_append_right _ h))))))))
theorem hd_X8_ending : kHd yX8_ending 0 := by decide +kernel
set_option maxHeartbeats 4000000 in
set_option maxRecDepth 100000 in
theorem t_X8_ending {g : kG} {cI cS : ClassId} {ad : Nat → Nat} (X : Kx g cI cS cX8_ending RX8 wsX8_ending 1 rm_X8_ending) {r : Int32} {Cr : kS} (hI : kInj 132 ad) (Y : Kw g (WC cI cS ad) (kAd 132 ad)) (hR : kRI g (WC cI cS ad) 1 cX8_ending .int Cr r) (N : Nat) (C : kS)   (hf : f_X8_ending N C = some (r, Cr)) : J g (WC cI cS ad) 1 C 0 [some (.ref (ad 0))] [] := by
  unfold f_X8_ending at hf
  refine j_aload_n (pc := 0) X dX8_ending_0 rfl ?_
  refine j_aload_n (pc := 1) X dX8_ending_1 rfl ?_
  refine j_get (pc := 2) X iw_X8_ending_X8 (wc8 kd_0) rfl 1 (Nat.le_of_ble_eq_true rfl) lk_X8_ending_0 (v := .ref (ad 4)) rfl dX8_ending_2 ?_
  refine j_getN (pc := 5) X iw_X8_ending_X5 (wc5 kd_4) rfl 2 (Nat.le_of_ble_eq_true rfl) (List.mem_of_getElem? (i := 0) rfl) (v := .ref (ad 15)) rfl dX8_ending_5 ?_
  obtain ⟨p2, h1, hf⟩ := kB hf
  refine j_callW (pc := 8) X Y (c_X8_addTextTo hI N C 15 (kd5_11 kd_4 : kd 15 = 7) h1) gX8_ending_X8_addTextTo rfl ⟨rfl, rfl⟩ rfl hd_X8_addTextTo ⟨(Nat.le_of_ble_eq_true rfl), (Nat.le_of_ble_eq_true rfl)⟩ (wc8 kd_0) rfl rfl rfl (Nat.le_of_ble_eq_true rfl) rfl dX8_ending_8 ?_
  exact j_retW hR dX8_ending_11 hf
theorem c_X8_ending {l : Launch} {D : va_G} {cI cS : ClassId} {ad : Nat → Nat} (hI : kInj 132 ad) (N : Nat) (C : kS)  {r : Int32} {Cr : kS} (hf : f_X8_ending N C = some (r, Cr)) : mW l yX8_ending wsX8_ending rm_X8_ending D cI cS (WC cI cS ad) (kAd 132 ad) C [.ref (ad 0)] r Cr :=
  mW.of (by decide) rfl rfl (Nat.le_of_ble_eq_true rfl) (WC_D hI) (fun g X Y hR => t_X8_ending X hI Y hR N C   hf)
