abbrev rm_X7_widthOf : Room := { frames := 1, cells := 0, slots := 0, locals := 21 }
theorem lk_X7_widthOf_0 : Cond.fieldLink RX7 13 "BlackBars$Words" "mostLetters" "I" ∈ wsX7_widthOf := List.mem_of_getElem? (i := 1) rfl
theorem iw_X7_widthOf_X7 : ∀ w ∈ wsX70, w ∈ wsX7_widthOf := fun _ h => List.mem_cons_of_mem _ (List.mem_append_left _ (List.mem_append_right _ h))
theorem lk_X7_widthOf_1 : Cond.fieldLink RX7 25 "BlackBars$Words" "lengths" "LBlackBars$Row;" ∈ wsX7_widthOf := List.mem_of_getElem? (i := 2) rfl
theorem lk_X7_widthOf_2 : Cond.fieldLink RX7 21 "BlackBars$Words" "letters" "LBlackBars$Row;" ∈ wsX7_widthOf := List.mem_of_getElem? (i := 3) rfl
theorem hd_X7_widthOf : kHd yX7_widthOf 2 := by decide +kernel
set_option maxHeartbeats 4000000 in
set_option maxRecDepth 100000 in
theorem lt_X7_widthOf_25 {g : kG} {cI cS : ClassId} {ad : Nat → Nat} {C : kS} (X : Kx g cI cS cX7_widthOf RX7 wsX7_widthOf 7 rm_X7_widthOf) {r : Int32} (hR : kRI g (WC cI cS ad) 7 cX7_widthOf .int C r) (N : Nat) (k : Nat) (a1 : Int32) (k2 : Nat) (r2 : Int32) (hk : kd k = 7) (hk2 : kd k2 = 3) (k59_3 : Int32 → Option (Int32)) (hk59_3 : ∀ (x3 : Int32), k59_3 x3 = some r → J g (WC cI cS ad) 7 C 59 [some (.ref (ad k)), some (.int a1), some (.ref (ad k2)), some (.int (a1 * (C k 1))), some (.int ((a1 * (C k 1)) + r2)), some (.int x3), none] []) : ∀ (n : Nat) (x5 : Int32) (x6 : Int32), lp_X7_widthOf_25 N C k a1 k2 r2 k59_3 n x5 x6 = some r → J g (WC cI cS ad) 7 C 25 [some (.ref (ad k)), some (.int a1), some (.ref (ad k2)), some (.int (a1 * (C k 1))), some (.int ((a1 * (C k 1)) + r2)), some (.int x5), some (.int x6)] [] := by
  intro n
  induction n with
  | zero =>
    intro x5 x6 hf
    rw [lp_X7_widthOf_25] at hf
    cases hf
  | succ n ih =>
    intro x5 x6 hf
    rw [lp_X7_widthOf_25] at hf
    refine j_iload (pc := 25) X dX7_widthOf_25 rfl ?_
    refine j_iload (pc := 27) X dX7_widthOf_27 rfl ?_
    refine j_icmp_ge (tgt := 59) (pc := 29) X dX7_widthOf_29 rfl (fun c7 => ?_) (fun c7 => ?_)
    · have hf := kT c7 hf
      refine j_weak (lv' := [some (.ref (ad k)), some (.int a1), some (.ref (ad k2)), some (.int (a1 * (C k 1))), some (.int ((a1 * (C k 1)) + r2)), some (.int x5), none]) (And.intro rfl (And.intro rfl (And.intro rfl (And.intro rfl (And.intro rfl (And.intro rfl trivial)))))) ?_
      exact hk59_3 _ hf
    · have hf := kF c7 hf
      refine j_iload (pc := 32) X dX7_widthOf_32 rfl ?_
      refine j_aload_n (pc := 34) X dX7_widthOf_34 rfl ?_
      refine j_aload_n (pc := 35) X dX7_widthOf_35 rfl ?_
      refine j_get (pc := 36) X iw_X7_widthOf_X7 (wc7 hk) rfl 2 (Nat.le_of_ble_eq_true rfl) lk_X7_widthOf_2 (v := .ref (ad (k + 1))) rfl dX7_widthOf_36 ?_
      refine j_iload (pc := 39) X dX7_widthOf_39 rfl ?_
      obtain ⟨r9, h8, hf⟩ := kB hf
      refine j_callI (pc := 41) X (c_X3_at N C (k + 1) (kd7_1 hk) x6 h8) gX7_widthOf_X3_at rfl ⟨rfl, rfl⟩ rfl hd_X3_at ⟨(Nat.le_of_ble_eq_true rfl), (Nat.le_of_ble_eq_true rfl)⟩ (wc3 (kd7_1 hk)) rfl rfl rfl (Nat.le_of_ble_eq_true rfl) rfl dX7_widthOf_41 ?_
      refine j_bipush (pc := 44) X dX7_widthOf_44 kb_97 ?_
      refine j_isub (pc := 46) X dX7_widthOf_46 ?_
      obtain ⟨r11, h10, hf⟩ := kB hf
      refine j_callI (pc := 47) X (c_X3_at N C k2 hk2 (r9 - 97) h10) gX7_widthOf_X3_at rfl ⟨rfl, rfl⟩ rfl hd_X3_at ⟨(Nat.le_of_ble_eq_true rfl), (Nat.le_of_ble_eq_true rfl)⟩ (wc3 hk2) rfl rfl rfl (Nat.le_of_ble_eq_true rfl) rfl dX7_widthOf_47 ?_
      refine j_iadd (pc := 50) X dX7_widthOf_50 ?_
      refine j_istore (pc := 51) X dX7_widthOf_51 (Nat.le_of_ble_eq_true rfl) (lv' := [some (.ref (ad k)), some (.int a1), some (.ref (ad k2)), some (.int (a1 * (C k 1))), some (.int ((a1 * (C k 1)) + r2)), some (.int (x5 + r11)), some (.int x6)]) rfl ?_
      refine j_iinc (pc := 53) X dX7_widthOf_53 rfl (v := x6 + 1) (by rw [kc_1]) (Nat.le_of_ble_eq_true rfl) (lv' := [some (.ref (ad k)), some (.int a1), some (.ref (ad k2)), some (.int (a1 * (C k 1))), some (.int ((a1 * (C k 1)) + r2)), some (.int (x5 + r11)), some (.int (x6 + 1))]) rfl ?_
      refine j_goto (tgt := 25) (pc := 56) X dX7_widthOf_56 rfl ?_
      exact ih _ _ hf
set_option maxHeartbeats 4000000 in
set_option maxRecDepth 100000 in
theorem t_X7_widthOf {g : kG} {cI cS : ClassId} {ad : Nat → Nat} {C : kS} (X : Kx g cI cS cX7_widthOf RX7 wsX7_widthOf 7 rm_X7_widthOf) {r : Int32} (hR : kRI g (WC cI cS ad) 7 cX7_widthOf .int C r) (N : Nat) (k : Nat) (a1 : Int32) (k2 : Nat) (hk : kd k = 7) (hk2 : kd k2 = 3) (hf : f_X7_widthOf N C k a1 k2 = some r) : J g (WC cI cS ad) 7 C 0 [some (.ref (ad k)), some (.int a1), some (.ref (ad k2)), none, none, none, none] [] := by
  unfold f_X7_widthOf at hf
  refine j_iload_n (pc := 0) X dX7_widthOf_0 rfl ?_
  refine j_aload_n (pc := 1) X dX7_widthOf_1 rfl ?_
  refine j_get (pc := 2) X iw_X7_widthOf_X7 (wc7 hk) rfl 1 (Nat.le_of_ble_eq_true rfl) lk_X7_widthOf_0 (v := .int (C k 1)) rfl dX7_widthOf_2 ?_
  refine j_imul (pc := 5) X dX7_widthOf_5 ?_
  refine j_istore_n (pc := 6) X dX7_widthOf_6 (Nat.le_of_ble_eq_true rfl) (lv' := [some (.ref (ad k)), some (.int a1), some (.ref (ad k2)), some (.int (a1 * (C k 1))), none, none, none]) rfl ?_
  refine j_iload_n (pc := 7) X dX7_widthOf_7 rfl ?_
  refine j_aload_n (pc := 8) X dX7_widthOf_8 rfl ?_
  refine j_get (pc := 9) X iw_X7_widthOf_X7 (wc7 hk) rfl 3 (Nat.le_of_ble_eq_true rfl) lk_X7_widthOf_1 (v := .ref (ad (k + 3))) rfl dX7_widthOf_9 ?_
  refine j_iload_n (pc := 12) X dX7_widthOf_12 rfl ?_
  obtain ⟨r2, h1, hf⟩ := kB hf
  refine j_callI (pc := 13) X (c_X3_at N C (k + 3) (kd7_3 hk) a1 h1) gX7_widthOf_X3_at rfl ⟨rfl, rfl⟩ rfl hd_X3_at ⟨(Nat.le_of_ble_eq_true rfl), (Nat.le_of_ble_eq_true rfl)⟩ (wc3 (kd7_3 hk)) rfl rfl rfl (Nat.le_of_ble_eq_true rfl) rfl dX7_widthOf_13 ?_
  refine j_iadd (pc := 16) X dX7_widthOf_16 ?_
  refine j_istore (pc := 17) X dX7_widthOf_17 (Nat.le_of_ble_eq_true rfl) (lv' := [some (.ref (ad k)), some (.int a1), some (.ref (ad k2)), some (.int (a1 * (C k 1))), some (.int ((a1 * (C k 1)) + r2)), none, none]) rfl ?_
  refine j_iconst (pc := 19) X dX7_widthOf_19 kc_0 ?_
  refine j_istore (pc := 20) X dX7_widthOf_20 (Nat.le_of_ble_eq_true rfl) (lv' := [some (.ref (ad k)), some (.int a1), some (.ref (ad k2)), some (.int (a1 * (C k 1))), some (.int ((a1 * (C k 1)) + r2)), some (.int 0), none]) rfl ?_
  refine j_iload_n (pc := 22) X dX7_widthOf_22 rfl ?_
  refine j_istore (pc := 23) X dX7_widthOf_23 (Nat.le_of_ble_eq_true rfl) (lv' := [some (.ref (ad k)), some (.int a1), some (.ref (ad k2)), some (.int (a1 * (C k 1))), some (.int ((a1 * (C k 1)) + r2)), some (.int 0), some (.int (a1 * (C k 1)))]) rfl ?_
  obtain ⟨k59_3, ek59_3, hf⟩ := jn_s hf
  have hk59_3 : ∀ (x3 : Int32), k59_3 x3 = some r → J g (WC cI cS ad) 7 C 59 [some (.ref (ad k)), some (.int a1), some (.ref (ad k2)), some (.int (a1 * (C k 1))), some (.int ((a1 * (C k 1)) + r2)), some (.int x3), none] [] := by
    intro x3 hf
    have hf := jE1 ek59_3 hf
    refine j_iload (pc := 59) X dX7_widthOf_59 rfl ?_
    exact j_retI hR dX7_widthOf_61 hf
  exact lt_X7_widthOf_25 X hR N k a1 k2 r2  hk  hk2  k59_3 hk59_3 N _ _ hf
theorem c_X7_widthOf {l : Launch} {D : va_G} {cI cS : ClassId} {ad : Nat → Nat} (N : Nat) (C : kS) (k : Nat) (hk : kd k = 7) (a1 : Int32) (k2 : Nat) (hk2 : kd k2 = 3) {r : Int32} (hf : f_X7_widthOf N C k a1 k2 = some r) : mI l yX7_widthOf wsX7_widthOf rm_X7_widthOf D cI cS (WC cI cS ad) C [.ref (ad k), .int a1, .ref (ad k2)] r :=
  mI.of (by decide) rfl rfl (Nat.le_of_ble_eq_true rfl) (fun g X hR => t_X7_widthOf X  hR N k a1 k2 hk hk2 hf)
abbrev rm_X5_widthOfForm : Room := { frames := 2, cells := 0, slots := 0, locals := 47 }
theorem lk_X5_widthOfForm_0 : Cond.fieldLink RX5 20 "BlackBars$State" "names" "LBlackBars$Words;" ∈ wsX5_widthOfForm := List.mem_of_getElem? (i := 1) rfl
theorem iw_X5_widthOfForm_X5 : ∀ w ∈ wsX50, w ∈ wsX5_widthOfForm := fun _ h => List.mem_cons_of_mem _ (List.mem_append_left _ (List.mem_append_left _ (List.mem_append_right _ h)))
theorem lk_X5_widthOfForm_1 : Cond.fieldLink RX5 35 "BlackBars$State" "letterWidths" "LBlackBars$Row;" ∈ wsX5_widthOfForm := List.mem_of_getElem? (i := 2) rfl
theorem lk_X5_widthOfForm_2 : Cond.fieldLink RX5 23 "BlackBars$State" "endings" "LBlackBars$Words;" ∈ wsX5_widthOfForm := List.mem_of_getElem? (i := 3) rfl
theorem hd_X5_widthOfForm : kHd yX5_widthOfForm 2 := by decide +kernel
set_option maxHeartbeats 4000000 in
set_option maxRecDepth 100000 in
theorem t_X5_widthOfForm {g : kG} {cI cS : ClassId} {ad : Nat → Nat} {C : kS} (X : Kx g cI cS cX5_widthOfForm RX5 wsX5_widthOfForm 3 rm_X5_widthOfForm) {r : Int32} (hR : kRI g (WC cI cS ad) 3 cX5_widthOfForm .int C r) (N : Nat) (a1 : Int32) (a2 : Int32)  (hf : f_X5_widthOfForm N C a1 a2 = some r) : J g (WC cI cS ad) 3 C 0 [some (.ref (ad 4)), some (.int a1), some (.int a2)] [] := by
  unfold f_X5_widthOfForm at hf
  refine j_aload_n (pc := 0) X dX5_widthOfForm_0 rfl ?_
  refine j_get (pc := 1) X iw_X5_widthOfForm_X5 (wc5 kd_4) rfl 1 (Nat.le_of_ble_eq_true rfl) lk_X5_widthOfForm_0 (v := .ref (ad 10)) rfl dX5_widthOfForm_1 ?_
  refine j_iload_n (pc := 4) X dX5_widthOfForm_4 rfl ?_
  refine j_aload_n (pc := 5) X dX5_widthOfForm_5 rfl ?_
  refine j_get (pc := 6) X iw_X5_widthOfForm_X5 (wc5 kd_4) rfl 3 (Nat.le_of_ble_eq_true rfl) lk_X5_widthOfForm_1 (v := .ref (ad 20)) rfl dX5_widthOfForm_6 ?_
  obtain ⟨r2, h1, hf⟩ := kB hf
  refine j_callI (pc := 9) X (c_X7_widthOf N C 10 (kd5_6 kd_4 : kd 10 = 7) a1 20 (kd5_16 kd_4 : kd 20 = 3) h1) gX5_widthOfForm_X7_widthOf rfl ⟨rfl, rfl⟩ rfl hd_X7_widthOf ⟨(Nat.le_of_ble_eq_true rfl), (Nat.le_of_ble_eq_true rfl)⟩ (wc7 (kd5_6 kd_4 : kd 10 = 7)) rfl rfl rfl (Nat.le_of_ble_eq_true rfl) rfl dX5_widthOfForm_9 ?_
  refine j_aload_n (pc := 12) X dX5_widthOfForm_12 rfl ?_
  refine j_get (pc := 13) X iw_X5_widthOfForm_X5 (wc5 kd_4) rfl 2 (Nat.le_of_ble_eq_true rfl) lk_X5_widthOfForm_2 (v := .ref (ad 15)) rfl dX5_widthOfForm_13 ?_
  refine j_iload_n (pc := 16) X dX5_widthOfForm_16 rfl ?_
  refine j_aload_n (pc := 17) X dX5_widthOfForm_17 rfl ?_
  refine j_get (pc := 18) X iw_X5_widthOfForm_X5 (wc5 kd_4) rfl 3 (Nat.le_of_ble_eq_true rfl) lk_X5_widthOfForm_1 (v := .ref (ad 20)) rfl dX5_widthOfForm_18 ?_
  obtain ⟨r4, h3, hf⟩ := kB hf
  refine j_callI (pc := 21) X (c_X7_widthOf N C 15 (kd5_11 kd_4 : kd 15 = 7) a2 20 (kd5_16 kd_4 : kd 20 = 3) h3) gX5_widthOfForm_X7_widthOf rfl ⟨rfl, rfl⟩ rfl hd_X7_widthOf ⟨(Nat.le_of_ble_eq_true rfl), (Nat.le_of_ble_eq_true rfl)⟩ (wc7 (kd5_11 kd_4 : kd 15 = 7)) rfl rfl rfl (Nat.le_of_ble_eq_true rfl) rfl dX5_widthOfForm_21 ?_
  refine j_iadd (pc := 24) X dX5_widthOfForm_24 ?_
  exact j_retI hR dX5_widthOfForm_25 hf
theorem c_X5_widthOfForm {l : Launch} {D : va_G} {cI cS : ClassId} {ad : Nat → Nat} (N : Nat) (C : kS) (a1 : Int32) (a2 : Int32) {r : Int32} (hf : f_X5_widthOfForm N C a1 a2 = some r) : mI l yX5_widthOfForm wsX5_widthOfForm rm_X5_widthOfForm D cI cS (WC cI cS ad) C [.ref (ad 4), .int a1, .int a2] r :=
  mI.of (by decide) rfl rfl (Nat.le_of_ble_eq_true rfl) (fun g X hR => t_X5_widthOfForm X  hR N a1 a2  hf)
abbrev rm_X1_measure : Room := { frames := 3, cells := 0, slots := 0, locals := 69 }
theorem iw_X1_measure_X5 : ∀ w ∈ wsX50, w ∈ wsX1_measure := fun _ h => List.mem_cons_of_mem _ (List.mem_append_left _ (List.mem_append_left _ (List.mem_append_left _ (List.mem_append_right _ h))))
theorem lk_X1_measure_0 : Cond.fieldLink RX1 26 "BlackBars$Forms" "formsOfName" "I" ∈ wsX1_measure := List.mem_of_getElem? (i := 1) rfl
theorem iw_X1_measure_X1 : ∀ w ∈ wsX10, w ∈ wsX1_measure := fun _ h => List.mem_cons_of_mem _ (List.mem_append_left _ (List.mem_append_left _ (List.mem_append_right _ h)))
theorem lk_X1_measure_1 : Cond.fieldLink RX1 30 "BlackBars$Forms" "size" "I" ∈ wsX1_measure := List.mem_of_getElem? (i := 2) rfl
theorem lk_X1_measure_3 : Cond.fieldLink RX1 20 "BlackBars$Forms" "ranks" "LBlackBars$Row;" ∈ wsX1_measure := List.mem_of_getElem? (i := 4) rfl
theorem lk_X1_measure_4 : Cond.fieldLink RX1 23 "BlackBars$Forms" "sortedWidths" "LBlackBars$Row;" ∈ wsX1_measure := List.mem_of_getElem? (i := 5) rfl
theorem lk_X1_measure_2 : Cond.fieldLink RX1 14 "BlackBars$Forms" "widths" "LBlackBars$Row;" ∈ wsX1_measure := List.mem_of_getElem? (i := 3) rfl
theorem hd_X1_measure : kHd yX1_measure 1 := by decide +kernel
set_option maxHeartbeats 4000000 in
set_option maxRecDepth 100000 in
theorem lt_X1_measure_69 {g : kG} {cI cS : ClassId} {ad : Nat → Nat} (X : Kx g cI cS cX1_measure RX1 wsX1_measure 4 rm_X1_measure) {Cr : kS} (hI : kInj 132 ad) (Y : Kw g (WC cI cS ad) (kAd 132 ad)) (hR : kRV g (WC cI cS ad) 4 cX1_measure Cr) (N : Nat)   (k114_9 : kS → Option (kS)) (hk114_9 : ∀ (C9 : kS), k114_9 C9 = some Cr → J g (WC cI cS ad) 4 C9 114 [some (.ref (ad 106)), some (.ref (ad 4)), none, none] []) : ∀ (n : Nat) (x11 : Int32) (C12 : kS), lp_X1_measure_69 N k114_9 n x11 C12 = some Cr → J g (WC cI cS ad) 4 C12 69 [some (.ref (ad 106)), some (.ref (ad 4)), some (.int x11), none] [] := by
  intro n
  induction n with
  | zero =>
    intro x11 C12 hf
    rw [lp_X1_measure_69] at hf
    cases hf
  | succ n ih =>
    intro x11 C12 hf
    rw [lp_X1_measure_69] at hf
    refine j_iload_n (pc := 69) X dX1_measure_69 rfl ?_
    refine j_aload_n (pc := 70) X dX1_measure_70 rfl ?_
    refine j_get (pc := 71) X iw_X1_measure_X1 (wc1 kd_106) rfl 4 (Nat.le_of_ble_eq_true rfl) lk_X1_measure_1 (v := .int (C12 106 4)) rfl dX1_measure_71 ?_
    refine j_icmp_ge (tgt := 114) (pc := 74) X dX1_measure_74 rfl (fun c13 => ?_) (fun c13 => ?_)
    · have hf := kT c13 hf
      refine j_weak (lv' := [some (.ref (ad 106)), some (.ref (ad 4)), none, none]) (And.intro rfl (And.intro rfl trivial)) ?_
      exact hk114_9 _ hf
    · have hf := kF c13 hf
      refine j_aload_n (pc := 77) X dX1_measure_77 rfl ?_
      refine j_iload_n (pc := 78) X dX1_measure_78 rfl ?_
      obtain ⟨r15, h14, hf⟩ := kB hf
      refine j_callI (pc := 79) X (c_X1_formsAheadOf N C12 x11 h14) gX1_measure_X1_formsAheadOf rfl ⟨rfl, rfl⟩ rfl hd_X1_formsAheadOf ⟨(Nat.le_of_ble_eq_true rfl), (Nat.le_of_ble_eq_true rfl)⟩ (wc1 kd_106) rfl rfl rfl (Nat.le_of_ble_eq_true rfl) rfl dX1_measure_79 ?_
      refine j_istore_n (pc := 82) X dX1_measure_82 (Nat.le_of_ble_eq_true rfl) (lv' := [some (.ref (ad 106)), some (.ref (ad 4)), some (.int x11), some (.int r15)]) rfl ?_
      refine j_aload_n (pc := 83) X dX1_measure_83 rfl ?_
      refine j_get (pc := 84) X iw_X1_measure_X1 (wc1 kd_106) rfl 1 (Nat.le_of_ble_eq_true rfl) lk_X1_measure_3 (v := .ref (ad 109)) rfl dX1_measure_84 ?_
      refine j_iload_n (pc := 87) X dX1_measure_87 rfl ?_
      refine j_iload_n (pc := 88) X dX1_measure_88 rfl ?_
      obtain ⟨C17, h16, hf⟩ := kB hf
      refine j_callV (pc := 89) X Y (c_X3_put hI N C12 109 kd_109 x11 r15 h16) gX1_measure_X3_put rfl ⟨rfl, rfl⟩ rfl hd_X3_put ⟨(Nat.le_of_ble_eq_true rfl), (Nat.le_of_ble_eq_true rfl)⟩ (wc3 kd_109) rfl rfl rfl (Nat.le_of_ble_eq_true rfl) rfl dX1_measure_89 ?_
      refine j_aload_n (pc := 92) X dX1_measure_92 rfl ?_
      refine j_get (pc := 93) X iw_X1_measure_X1 (wc1 kd_106) rfl 2 (Nat.le_of_ble_eq_true rfl) lk_X1_measure_4 (v := .ref (ad 111)) rfl dX1_measure_93 ?_
      refine j_iload_n (pc := 96) X dX1_measure_96 rfl ?_
      refine j_aload_n (pc := 97) X dX1_measure_97 rfl ?_
      refine j_get (pc := 98) X iw_X1_measure_X1 (wc1 kd_106) rfl 0 (Nat.le_of_ble_eq_true rfl) lk_X1_measure_2 (v := .ref (ad 107)) rfl dX1_measure_98 ?_
      refine j_iload_n (pc := 101) X dX1_measure_101 rfl ?_
      obtain ⟨r19, h18, hf⟩ := kB hf
      refine j_callI (pc := 102) X (c_X3_at N C17 107 kd_107 x11 h18) gX1_measure_X3_at rfl ⟨rfl, rfl⟩ rfl hd_X3_at ⟨(Nat.le_of_ble_eq_true rfl), (Nat.le_of_ble_eq_true rfl)⟩ (wc3 kd_107) rfl rfl rfl (Nat.le_of_ble_eq_true rfl) rfl dX1_measure_102 ?_
      obtain ⟨C21, h20, hf⟩ := kB hf
      refine j_callV (pc := 105) X Y (c_X3_put hI N C17 111 kd_111 r15 r19 h20) gX1_measure_X3_put rfl ⟨rfl, rfl⟩ rfl hd_X3_put ⟨(Nat.le_of_ble_eq_true rfl), (Nat.le_of_ble_eq_true rfl)⟩ (wc3 kd_111) rfl rfl rfl (Nat.le_of_ble_eq_true rfl) rfl dX1_measure_105 ?_
      refine j_iinc (pc := 108) X dX1_measure_108 rfl (v := x11 + 1) (by rw [kc_1]) (Nat.le_of_ble_eq_true rfl) (lv' := [some (.ref (ad 106)), some (.ref (ad 4)), some (.int (x11 + 1)), some (.int r15)]) rfl ?_
      refine j_goto (tgt := 69) (pc := 111) X dX1_measure_111 rfl ?_
      refine j_weak (lv' := [some (.ref (ad 106)), some (.ref (ad 4)), some (.int (x11 + 1)), none]) (And.intro rfl (And.intro rfl (And.intro rfl trivial))) ?_
      exact ih _ _ hf
set_option maxHeartbeats 4000000 in
set_option maxRecDepth 100000 in
theorem lt_X1_measure_31 {g : kG} {cI cS : ClassId} {ad : Nat → Nat} (X : Kx g cI cS cX1_measure RX1 wsX1_measure 4 rm_X1_measure) {Cr : kS} (hI : kInj 132 ad) (Y : Kw g (WC cI cS ad) (kAd 132 ad)) (hR : kRV g (WC cI cS ad) 4 cX1_measure Cr) (N : Nat)   (k67_7 : kS → Option (kS)) (hk67_7 : ∀ (C7 : kS), k67_7 C7 = some Cr → J g (WC cI cS ad) 4 C7 67 [some (.ref (ad 106)), some (.ref (ad 4)), none, none] []) : ∀ (n : Nat) (x22 : Int32) (C23 : kS), lp_X1_measure_31 N k67_7 n x22 C23 = some Cr → J g (WC cI cS ad) 4 C23 31 [some (.ref (ad 106)), some (.ref (ad 4)), some (.int x22), none] [] := by
  intro n
  induction n with
  | zero =>
    intro x22 C23 hf
    rw [lp_X1_measure_31] at hf
    cases hf
  | succ n ih =>
    intro x22 C23 hf
    rw [lp_X1_measure_31] at hf
    refine j_iload_n (pc := 31) X dX1_measure_31 rfl ?_
    refine j_aload_n (pc := 32) X dX1_measure_32 rfl ?_
    refine j_get (pc := 33) X iw_X1_measure_X1 (wc1 kd_106) rfl 4 (Nat.le_of_ble_eq_true rfl) lk_X1_measure_1 (v := .int (C23 106 4)) rfl dX1_measure_33 ?_
    refine j_icmp_ge (tgt := 67) (pc := 36) X dX1_measure_36 rfl (fun c24 => ?_) (fun c24 => ?_)
    · have hf := kT c24 hf
      refine j_weak (lv' := [some (.ref (ad 106)), some (.ref (ad 4)), none, none]) (And.intro rfl (And.intro rfl trivial)) ?_
      exact hk67_7 _ hf
    · have hf := kF c24 hf
      refine j_aload_n (pc := 39) X dX1_measure_39 rfl ?_
      refine j_get (pc := 40) X iw_X1_measure_X1 (wc1 kd_106) rfl 0 (Nat.le_of_ble_eq_true rfl) lk_X1_measure_2 (v := .ref (ad 107)) rfl dX1_measure_40 ?_
      refine j_iload_n (pc := 43) X dX1_measure_43 rfl ?_
      refine j_aload_n (pc := 44) X dX1_measure_44 rfl ?_
      refine j_aload_n (pc := 45) X dX1_measure_45 rfl ?_
      refine j_iload_n (pc := 46) X dX1_measure_46 rfl ?_
      obtain ⟨r26, h25, hf⟩ := kB hf
      refine j_callI (pc := 47) X (c_X1_nameOf N C23 x22 h25) gX1_measure_X1_nameOf rfl ⟨rfl, rfl⟩ rfl hd_X1_nameOf ⟨(Nat.le_of_ble_eq_true rfl), (Nat.le_of_ble_eq_true rfl)⟩ (wc1 kd_106) rfl rfl rfl (Nat.le_of_ble_eq_true rfl) rfl dX1_measure_47 ?_
      refine j_aload_n (pc := 50) X dX1_measure_50 rfl ?_
      refine j_iload_n (pc := 51) X dX1_measure_51 rfl ?_
      obtain ⟨r28, h27, hf⟩ := kB hf
      refine j_callI (pc := 52) X (c_X1_endingOf N C23 x22 h27) gX1_measure_X1_endingOf rfl ⟨rfl, rfl⟩ rfl hd_X1_endingOf ⟨(Nat.le_of_ble_eq_true rfl), (Nat.le_of_ble_eq_true rfl)⟩ (wc1 kd_106) rfl rfl rfl (Nat.le_of_ble_eq_true rfl) rfl dX1_measure_52 ?_
      obtain ⟨r30, h29, hf⟩ := kB hf
      refine j_callI (pc := 55) X (c_X5_widthOfForm N C23 r26 r28 h29) gX1_measure_X5_widthOfForm rfl ⟨rfl, rfl⟩ rfl hd_X5_widthOfForm ⟨(Nat.le_of_ble_eq_true rfl), (Nat.le_of_ble_eq_true rfl)⟩ (wc5 kd_4) rfl rfl rfl (Nat.le_of_ble_eq_true rfl) rfl dX1_measure_55 ?_
      obtain ⟨C32, h31, hf⟩ := kB hf
      refine j_callV (pc := 58) X Y (c_X3_put hI N C23 107 kd_107 x22 r30 h31) gX1_measure_X3_put rfl ⟨rfl, rfl⟩ rfl hd_X3_put ⟨(Nat.le_of_ble_eq_true rfl), (Nat.le_of_ble_eq_true rfl)⟩ (wc3 kd_107) rfl rfl rfl (Nat.le_of_ble_eq_true rfl) rfl dX1_measure_58 ?_
      refine j_iinc (pc := 61) X dX1_measure_61 rfl (v := x22 + 1) (by rw [kc_1]) (Nat.le_of_ble_eq_true rfl) (lv' := [some (.ref (ad 106)), some (.ref (ad 4)), some (.int (x22 + 1)), none]) rfl ?_
      refine j_goto (tgt := 31) (pc := 64) X dX1_measure_64 rfl ?_
      exact ih _ _ hf
set_option maxHeartbeats 4000000 in
set_option maxRecDepth 100000 in
theorem t_X1_measure {g : kG} {cI cS : ClassId} {ad : Nat → Nat} (X : Kx g cI cS cX1_measure RX1 wsX1_measure 4 rm_X1_measure) {Cr : kS} (hI : kInj 132 ad) (Y : Kw g (WC cI cS ad) (kAd 132 ad)) (hR : kRV g (WC cI cS ad) 4 cX1_measure Cr) (N : Nat) (C : kS)   (hf : f_X1_measure N C = some Cr) : J g (WC cI cS ad) 4 C 0 [some (.ref (ad 106)), some (.ref (ad 4)), none, none] [] := by
  unfold f_X1_measure at hf
  refine j_aload_n (pc := 0) X dX1_measure_0 rfl ?_
  refine j_aload_n (pc := 1) X dX1_measure_1 rfl ?_
  refine j_getN (pc := 2) X iw_X1_measure_X5 (wc5 kd_4) rfl 2 (Nat.le_of_ble_eq_true rfl) (List.mem_of_getElem? (i := 5) rfl) (v := .ref (ad 15)) rfl dX1_measure_2 ?_
  obtain ⟨r2, h1, hf⟩ := kB hf
  refine j_callI (pc := 5) X (c_X7_size N C 15 (kd5_11 kd_4 : kd 15 = 7) h1) gX1_measure_X7_size rfl ⟨rfl, rfl⟩ rfl hd_X7_size ⟨(Nat.le_of_ble_eq_true rfl), (Nat.le_of_ble_eq_true rfl)⟩ (wc7 (kd5_11 kd_4 : kd 15 = 7)) rfl rfl rfl (Nat.le_of_ble_eq_true rfl) rfl dX1_measure_5 ?_
  refine j_iconst (pc := 8) X dX1_measure_8 kc_1 ?_
  refine j_iadd (pc := 9) X dX1_measure_9 ?_
  obtain ⟨C3, eC3, hf⟩ := jn_s hf
  refine j_put (C' := C3) (pc := 10) X Y iw_X1_measure_X1 tyX1 tyX1_ok nmX1 (wc1 kd_106) rfl 3 (Nat.le_of_ble_eq_true rfl) lk_X1_measure_0 rfl (tyX1_ok 3 (Nat.le_of_ble_eq_true rfl)) (Nat.le_of_ble_eq_true rfl) dX1_measure_10 (by rw [eC3]; exact sc1_3 kd_106 _) ?_
  refine j_aload_n (pc := 13) X dX1_measure_13 rfl ?_
  refine j_aload_n (pc := 14) X dX1_measure_14 rfl ?_
  refine j_getN (pc := 15) X iw_X1_measure_X5 (wc5 kd_4) rfl 1 (Nat.le_of_ble_eq_true rfl) (List.mem_of_getElem? (i := 6) rfl) (v := .ref (ad 10)) rfl dX1_measure_15 ?_
  obtain ⟨r5, h4, hf⟩ := kB hf
  refine j_callI (pc := 18) X (c_X7_size N C3 10 (kd5_6 kd_4 : kd 10 = 7) h4) gX1_measure_X7_size rfl ⟨rfl, rfl⟩ rfl hd_X7_size ⟨(Nat.le_of_ble_eq_true rfl), (Nat.le_of_ble_eq_true rfl)⟩ (wc7 (kd5_6 kd_4 : kd 10 = 7)) rfl rfl rfl (Nat.le_of_ble_eq_true rfl) rfl dX1_measure_18 ?_
  refine j_aload_n (pc := 21) X dX1_measure_21 rfl ?_
  refine j_get (pc := 22) X iw_X1_measure_X1 (wc1 kd_106) rfl 3 (Nat.le_of_ble_eq_true rfl) lk_X1_measure_0 (v := .int (C3 106 3)) rfl dX1_measure_22 ?_
  refine j_imul (pc := 25) X dX1_measure_25 ?_
  obtain ⟨C6, eC6, hf⟩ := jn_s hf
  refine j_put (C' := C6) (pc := 26) X Y iw_X1_measure_X1 tyX1 tyX1_ok nmX1 (wc1 kd_106) rfl 4 (Nat.le_of_ble_eq_true rfl) lk_X1_measure_1 rfl (tyX1_ok 4 (Nat.le_of_ble_eq_true rfl)) (Nat.le_of_ble_eq_true rfl) dX1_measure_26 (by rw [eC6]; exact sc1_4 kd_106 _) ?_
  refine j_iconst (pc := 29) X dX1_measure_29 kc_0 ?_
  refine j_istore_n (pc := 30) X dX1_measure_30 (Nat.le_of_ble_eq_true rfl) (lv' := [some (.ref (ad 106)), some (.ref (ad 4)), some (.int 0), none]) rfl ?_
  obtain ⟨k67_7, ek67_7, hf⟩ := jn_s hf
  have hk67_7 : ∀ (C7 : kS), k67_7 C7 = some Cr → J g (WC cI cS ad) 4 C7 67 [some (.ref (ad 106)), some (.ref (ad 4)), none, none] [] := by
    intro C7 hf
    have hf := jE1 ek67_7 hf
    refine j_iconst (pc := 67) X dX1_measure_67 kc_0 ?_
    refine j_istore_n (pc := 68) X dX1_measure_68 (Nat.le_of_ble_eq_true rfl) (lv' := [some (.ref (ad 106)), some (.ref (ad 4)), some (.int 0), none]) rfl ?_
    obtain ⟨k114_9, ek114_9, hf⟩ := jn_s hf
    have hk114_9 : ∀ (C9 : kS), k114_9 C9 = some Cr → J g (WC cI cS ad) 4 C9 114 [some (.ref (ad 106)), some (.ref (ad 4)), none, none] [] := by
      intro C9 hf
      have hf := jE1 ek114_9 hf
      exact j_retV hR dX1_measure_114 hf
    exact lt_X1_measure_69 X hI Y hR N   k114_9 hk114_9 N _ _ hf
  exact lt_X1_measure_31 X hI Y hR N   k67_7 hk67_7 N _ _ hf
theorem c_X1_measure {l : Launch} {D : va_G} {cI cS : ClassId} {ad : Nat → Nat} (hI : kInj 132 ad) (N : Nat) (C : kS)  {Cr : kS} (hf : f_X1_measure N C = some Cr) : mV l yX1_measure wsX1_measure rm_X1_measure D cI cS (WC cI cS ad) (kAd 132 ad) C [.ref (ad 106), .ref (ad 4)] Cr :=
  mV.of (by decide) rfl rfl (Nat.le_of_ble_eq_true rfl) (WC_D hI) (fun g X Y hR => t_X1_measure X hI Y hR N C   hf)
abbrev rm_X2_moveOldestToEnd : Room := { frames := 0, cells := 0, slots := 0, locals := 0 }
theorem lk_X2_moveOldestToEnd_0 : Cond.fieldLink RX2 11 "BlackBars$History" "states" "[LBlackBars$State;" ∈ wsX2_moveOldestToEnd := List.mem_of_getElem? (i := 1) rfl
theorem iw_X2_moveOldestToEnd_X2 : ∀ w ∈ wsX20, w ∈ wsX2_moveOldestToEnd := fun _ h => List.mem_cons_of_mem _ (List.mem_append_right _ h)
theorem hd_X2_moveOldestToEnd : kHd yX2_moveOldestToEnd 0 := by decide +kernel
set_option maxHeartbeats 4000000 in
set_option maxRecDepth 100000 in
theorem lt_X2_moveOldestToEnd_2 {g : kG} {cI cS : ClassId} {ad : Nat → Nat} (X : Kx g cI cS cX2_moveOldestToEnd RX2 wsX2_moveOldestToEnd 3 rm_X2_moveOldestToEnd) {Cr : kS} (hI : kInj 132 ad) (Y : Kw g (WC cI cS ad) (kAd 132 ad)) (hR : kRV g (WC cI cS ad) 3 cX2_moveOldestToEnd Cr) (N : Nat)   (k49_1 : kS → Option (kS)) (hk49_1 : ∀ (C1 : kS), k49_1 C1 = some Cr → J g (WC cI cS ad) 3 C1 49 [some (.ref (ad 24)), none, none] []) : ∀ (n : Nat) (x3 : Int32) (C4 : kS), lp_X2_moveOldestToEnd_2 N k49_1 n x3 C4 = some Cr → J g (WC cI cS ad) 3 C4 2 [some (.ref (ad 24)), some (.int x3), none] [] := by
  intro n
  induction n with
  | zero =>
    intro x3 C4 hf
    rw [lp_X2_moveOldestToEnd_2] at hf
    cases hf
  | succ n ih =>
    intro x3 C4 hf
    rw [lp_X2_moveOldestToEnd_2] at hf
    refine j_iload_n (pc := 2) X dX2_moveOldestToEnd_2 rfl ?_
    refine j_iconst (pc := 3) X dX2_moveOldestToEnd_3 kc_1 ?_
    refine j_iadd (pc := 4) X dX2_moveOldestToEnd_4 ?_
    refine j_aload_n (pc := 5) X dX2_moveOldestToEnd_5 rfl ?_
    refine j_get (pc := 6) X iw_X2_moveOldestToEnd_X2 (wc2 kd_24) rfl 0 (Nat.le_of_ble_eq_true rfl) lk_X2_moveOldestToEnd_0 (v := .ref (ad 25)) rfl dX2_moveOldestToEnd_6 ?_
    refine j_alen (pc := 9) X (wcR kd_25) 1 rfl (v := nI (ln 25)) rfl dX2_moveOldestToEnd_9 ?_
    refine j_icmp_ge (tgt := 49) (pc := 10) X dX2_moveOldestToEnd_10 rfl (fun c5 => ?_) (fun c5 => ?_)
    · have hf := kT c5 hf
      refine j_weak (lv' := [some (.ref (ad 24)), none, none]) (And.intro rfl trivial) ?_
      exact hk49_1 _ hf
    · have hf := kF c5 hf
      refine j_aload_n (pc := 13) X dX2_moveOldestToEnd_13 rfl ?_
      refine j_get (pc := 14) X iw_X2_moveOldestToEnd_X2 (wc2 kd_24) rfl 0 (Nat.le_of_ble_eq_true rfl) lk_X2_moveOldestToEnd_0 (v := .ref (ad 25)) rfl dX2_moveOldestToEnd_14 ?_
      refine j_iload_n (pc := 17) X dX2_moveOldestToEnd_17 rfl ?_
      obtain ⟨b6, hf⟩ := gIn_s hf
      obtain ⟨q7, eq7, hf⟩ := jn_s hf
      obtain ⟨hkq7, hf⟩ := gIf_s hf
      refine j_aald (pc := 18) X (wcR kd_25) b6 (v := ad q7.toNatClampNeg) (by rw [eq7]) dX2_moveOldestToEnd_18 ?_
      refine j_astore_n (pc := 19) X dX2_moveOldestToEnd_19 (Nat.le_of_ble_eq_true rfl) (lv' := [some (.ref (ad 24)), some (.int x3), some (.ref (ad q7.toNatClampNeg))]) rfl ?_
      refine j_aload_n (pc := 20) X dX2_moveOldestToEnd_20 rfl ?_
      refine j_get (pc := 21) X iw_X2_moveOldestToEnd_X2 (wc2 kd_24) rfl 0 (Nat.le_of_ble_eq_true rfl) lk_X2_moveOldestToEnd_0 (v := .ref (ad 25)) rfl dX2_moveOldestToEnd_21 ?_
      refine j_iload_n (pc := 24) X dX2_moveOldestToEnd_24 rfl ?_
      refine j_aload_n (pc := 25) X dX2_moveOldestToEnd_25 rfl ?_
      refine j_get (pc := 26) X iw_X2_moveOldestToEnd_X2 (wc2 kd_24) rfl 0 (Nat.le_of_ble_eq_true rfl) lk_X2_moveOldestToEnd_0 (v := .ref (ad 25)) rfl dX2_moveOldestToEnd_26 ?_
      refine j_iload_n (pc := 29) X dX2_moveOldestToEnd_29 rfl ?_
      refine j_iconst (pc := 30) X dX2_moveOldestToEnd_30 kc_1 ?_
      refine j_iadd (pc := 31) X dX2_moveOldestToEnd_31 ?_
      obtain ⟨b8, hf⟩ := gIn_s hf
      obtain ⟨q9, eq9, hf⟩ := jn_s hf
      obtain ⟨hkq9, hf⟩ := gIf_s hf
      refine j_aald (pc := 32) X (wcR kd_25) b8 (v := ad q9.toNatClampNeg) (by rw [eq9]) dX2_moveOldestToEnd_32 ?_
      obtain ⟨b10, hf⟩ := gIn_s hf
      obtain ⟨C11, eC11, hf⟩ := jn_s hf
      refine j_aast (C' := C11) (pc := 33) X Y (wcR kd_25) (wc5 hkq9) b10 dX2_moveOldestToEnd_33 (by rw [eC11]; exact scR kd_25 _ _) ?_
      refine j_aload_n (pc := 34) X dX2_moveOldestToEnd_34 rfl ?_
      refine j_get (pc := 35) X iw_X2_moveOldestToEnd_X2 (wc2 kd_24) rfl 0 (Nat.le_of_ble_eq_true rfl) lk_X2_moveOldestToEnd_0 (v := .ref (ad 25)) rfl dX2_moveOldestToEnd_35 ?_
      refine j_iload_n (pc := 38) X dX2_moveOldestToEnd_38 rfl ?_
      refine j_iconst (pc := 39) X dX2_moveOldestToEnd_39 kc_1 ?_
      refine j_iadd (pc := 40) X dX2_moveOldestToEnd_40 ?_
      refine j_aload_n (pc := 41) X dX2_moveOldestToEnd_41 rfl ?_
      obtain ⟨b12, hf⟩ := gIn_s hf
      obtain ⟨C13, eC13, hf⟩ := jn_s hf
      refine j_aast (C' := C13) (pc := 42) X Y (wcR kd_25) (wc5 hkq7) b12 dX2_moveOldestToEnd_42 (by rw [eC13]; exact scR kd_25 _ _) ?_
      refine j_iinc (pc := 43) X dX2_moveOldestToEnd_43 rfl (v := x3 + 1) (by rw [kc_1]) (Nat.le_of_ble_eq_true rfl) (lv' := [some (.ref (ad 24)), some (.int (x3 + 1)), some (.ref (ad q7.toNatClampNeg))]) rfl ?_
      refine j_goto (tgt := 2) (pc := 46) X dX2_moveOldestToEnd_46 rfl ?_
      refine j_weak (lv' := [some (.ref (ad 24)), some (.int (x3 + 1)), none]) (And.intro rfl (And.intro rfl trivial)) ?_
      exact ih _ _ hf
set_option maxHeartbeats 4000000 in
set_option maxRecDepth 100000 in
theorem t_X2_moveOldestToEnd {g : kG} {cI cS : ClassId} {ad : Nat → Nat} (X : Kx g cI cS cX2_moveOldestToEnd RX2 wsX2_moveOldestToEnd 3 rm_X2_moveOldestToEnd) {Cr : kS} (hI : kInj 132 ad) (Y : Kw g (WC cI cS ad) (kAd 132 ad)) (hR : kRV g (WC cI cS ad) 3 cX2_moveOldestToEnd Cr) (N : Nat) (C : kS)   (hf : f_X2_moveOldestToEnd N C = some Cr) : J g (WC cI cS ad) 3 C 0 [some (.ref (ad 24)), none, none] [] := by
  unfold f_X2_moveOldestToEnd at hf
  refine j_iconst (pc := 0) X dX2_moveOldestToEnd_0 kc_0 ?_
  refine j_istore_n (pc := 1) X dX2_moveOldestToEnd_1 (Nat.le_of_ble_eq_true rfl) (lv' := [some (.ref (ad 24)), some (.int 0), none]) rfl ?_
  obtain ⟨k49_1, ek49_1, hf⟩ := jn_s hf
  have hk49_1 : ∀ (C1 : kS), k49_1 C1 = some Cr → J g (WC cI cS ad) 3 C1 49 [some (.ref (ad 24)), none, none] [] := by
    intro C1 hf
    have hf := jE1 ek49_1 hf
    exact j_retV hR dX2_moveOldestToEnd_49 hf
  exact lt_X2_moveOldestToEnd_2 X hI Y hR N   k49_1 hk49_1 N _ _ hf
theorem c_X2_moveOldestToEnd {l : Launch} {D : va_G} {cI cS : ClassId} {ad : Nat → Nat} (hI : kInj 132 ad) (N : Nat) (C : kS)  {Cr : kS} (hf : f_X2_moveOldestToEnd N C = some Cr) : mV l yX2_moveOldestToEnd wsX2_moveOldestToEnd rm_X2_moveOldestToEnd D cI cS (WC cI cS ad) (kAd 132 ad) C [.ref (ad 24)] Cr :=
  mV.of (by decide) rfl rfl (Nat.le_of_ble_eq_true rfl) (WC_D hI) (fun g X Y hR => t_X2_moveOldestToEnd X hI Y hR N C   hf)
abbrev rm_X3_copyFrom : Room := { frames := 1, cells := 0, slots := 0, locals := 40 }
theorem lk_X3_copyFrom_0 : Cond.fieldLink RX3 13 "BlackBars$Row" "cells" "[I" ∈ wsX3_copyFrom := List.mem_of_getElem? (i := 1) rfl
theorem iw_X3_copyFrom_X3 : ∀ w ∈ wsX30, w ∈ wsX3_copyFrom := fun _ h => List.mem_cons_of_mem _ (List.mem_append_right _ h)
theorem lk_X3_copyFrom_1 : Cond.methodLink RX3 24 Lib.Math.min.name ∈ wsX3_copyFrom := List.mem_of_getElem? (i := 2) rfl
theorem lk_X3_copyFrom_2 : Cond.static Lib.Math.min.name ∈ wsX3_copyFrom := List.mem_of_getElem? (i := 3) rfl
theorem lk_X3_copyFrom_3 : Cond.initialized "java/lang/Math" ∈ wsX3_copyFrom := List.mem_of_getElem? (i := 4) rfl
theorem lk_X3_copyFrom_4 : Cond.code Lib.Math.min.name Lib.Math.min.code 2 (some .int) ∈ wsX3_copyFrom := List.mem_of_getElem? (i := 5) rfl
theorem lk_X3_copyFrom_5 : Cond.methodLink RX3 27 arraycopyName ∈ wsX3_copyFrom := List.mem_of_getElem? (i := 6) rfl
theorem lk_X3_copyFrom_6 : Cond.native arraycopyName ∈ wsX3_copyFrom := List.mem_of_getElem? (i := 7) rfl
theorem lk_X3_copyFrom_7 : Cond.static arraycopyName ∈ wsX3_copyFrom := List.mem_of_getElem? (i := 8) rfl
theorem lk_X3_copyFrom_8 : Cond.initialized "java/lang/System" ∈ wsX3_copyFrom := List.mem_of_getElem? (i := 9) rfl
theorem hd_X3_copyFrom : kHd yX3_copyFrom 1 := by decide +kernel
set_option maxHeartbeats 4000000 in
set_option maxRecDepth 100000 in
theorem t_X3_copyFrom {g : kG} {cI cS : ClassId} {ad : Nat → Nat} (X : Kx g cI cS cX3_copyFrom RX3 wsX3_copyFrom 2 rm_X3_copyFrom) {Cr : kS} (hI : kInj 132 ad) (Y : Kw g (WC cI cS ad) (kAd 132 ad)) (hR : kRV g (WC cI cS ad) 2 cX3_copyFrom Cr) (N : Nat) (C : kS) (k : Nat) (k1 : Nat) (hk : kd k = 3) (hk1 : kd k1 = 3) (hf : f_X3_copyFrom N C k k1 = some Cr) : J g (WC cI cS ad) 2 C 0 [some (.ref (ad k)), some (.ref (ad k1))] [] := by
  unfold f_X3_copyFrom at hf
  refine j_aload_n (pc := 0) X dX3_copyFrom_0 rfl ?_
  refine j_get (pc := 1) X iw_X3_copyFrom_X3 (wc3 hk1) rfl 0 (Nat.le_of_ble_eq_true rfl) lk_X3_copyFrom_0 (v := .ref (ad (k1 + 1))) rfl dX3_copyFrom_1 ?_
  refine j_iconst (pc := 4) X dX3_copyFrom_4 kc_0 ?_
  refine j_aload_n (pc := 5) X dX3_copyFrom_5 rfl ?_
  refine j_get (pc := 6) X iw_X3_copyFrom_X3 (wc3 hk) rfl 0 (Nat.le_of_ble_eq_true rfl) lk_X3_copyFrom_0 (v := .ref (ad (k + 1))) rfl dX3_copyFrom_6 ?_
  refine j_iconst (pc := 9) X dX3_copyFrom_9 kc_0 ?_
  refine j_aload_n (pc := 10) X dX3_copyFrom_10 rfl ?_
  refine j_get (pc := 11) X iw_X3_copyFrom_X3 (wc3 hk) rfl 0 (Nat.le_of_ble_eq_true rfl) lk_X3_copyFrom_0 (v := .ref (ad (k + 1))) rfl dX3_copyFrom_11 ?_
  refine j_alen (pc := 14) X (wcA (kd3_1 hk)) 0 rfl (v := nI (ln (k + 1))) rfl dX3_copyFrom_14 ?_
  refine j_aload_n (pc := 15) X dX3_copyFrom_15 rfl ?_
  refine j_get (pc := 16) X iw_X3_copyFrom_X3 (wc3 hk1) rfl 0 (Nat.le_of_ble_eq_true rfl) lk_X3_copyFrom_0 (v := .ref (ad (k1 + 1))) rfl dX3_copyFrom_16 ?_
  refine j_alen (pc := 19) X (wcA (kd3_1 hk1)) 0 rfl (v := nI (ln (k1 + 1))) rfl dX3_copyFrom_19 ?_
  obtain ⟨x1, ex1, hf⟩ := jn_s hf
  refine j_mmin (pc := 20) X lk_X3_copyFrom_1 lk_X3_copyFrom_2 lk_X3_copyFrom_3 lk_X3_copyFrom_4 (Nat.le_of_ble_eq_true rfl) (Nat.le_of_ble_eq_true rfl) dX3_copyFrom_20 ?_
  rw [← ex1]
  obtain ⟨b3, hf⟩ := gIf_s hf
  obtain ⟨C2, eC2, hf⟩ := jn_s hf
  refine j_copyi (C' := C2) (pc := 23) X Y lk_X3_copyFrom_5 lk_X3_copyFrom_6 lk_X3_copyFrom_7 lk_X3_copyFrom_8 (wcA (kd3_1 hk1)) (wcA (kd3_1 hk)) b3.1 b3.2.1 b3.2.2 (Nat.le_of_ble_eq_true rfl) (Nat.le_of_ble_eq_true rfl) dX3_copyFrom_23 (by rw [eC2]; exact scA (kd3_1 hk) _) ?_
  exact j_retV hR dX3_copyFrom_26 hf
theorem c_X3_copyFrom {l : Launch} {D : va_G} {cI cS : ClassId} {ad : Nat → Nat} (hI : kInj 132 ad) (N : Nat) (C : kS) (k : Nat) (hk : kd k = 3) (k1 : Nat) (hk1 : kd k1 = 3) {Cr : kS} (hf : f_X3_copyFrom N C k k1 = some Cr) : mV l yX3_copyFrom wsX3_copyFrom rm_X3_copyFrom D cI cS (WC cI cS ad) (kAd 132 ad) C [.ref (ad k), .ref (ad k1)] Cr :=
  mV.of (by decide) rfl rfl (Nat.le_of_ble_eq_true rfl) (WC_D hI) (fun g X Y hR => t_X3_copyFrom X hI Y hR N C k k1 hk hk1 hf)
abbrev rm_X7_copyFrom : Room := { frames := 2, cells := 0, slots := 0, locals := 61 }
theorem lk_X7_copyFrom_0 : Cond.fieldLink RX7 21 "BlackBars$Words" "letters" "LBlackBars$Row;" ∈ wsX7_copyFrom := List.mem_of_getElem? (i := 1) rfl
theorem iw_X7_copyFrom_X7 : ∀ w ∈ wsX70, w ∈ wsX7_copyFrom := fun _ h => List.mem_cons_of_mem _ (List.mem_append_left _ (List.mem_append_right _ h))
theorem lk_X7_copyFrom_1 : Cond.fieldLink RX7 25 "BlackBars$Words" "lengths" "LBlackBars$Row;" ∈ wsX7_copyFrom := List.mem_of_getElem? (i := 2) rfl
theorem lk_X7_copyFrom_2 : Cond.fieldLink RX7 7 "BlackBars$Words" "mostWords" "I" ∈ wsX7_copyFrom := List.mem_of_getElem? (i := 3) rfl
theorem lk_X7_copyFrom_3 : Cond.fieldLink RX7 28 "BlackBars$Words" "size" "I" ∈ wsX7_copyFrom := List.mem_of_getElem? (i := 4) rfl
theorem lk_X7_copyFrom_4 : Cond.methodLink RX7 75 Lib.Math.min.name ∈ wsX7_copyFrom := List.mem_of_getElem? (i := 5) rfl
theorem lk_X7_copyFrom_5 : Cond.static Lib.Math.min.name ∈ wsX7_copyFrom := List.mem_of_getElem? (i := 6) rfl
theorem lk_X7_copyFrom_6 : Cond.initialized "java/lang/Math" ∈ wsX7_copyFrom := List.mem_of_getElem? (i := 7) rfl
theorem lk_X7_copyFrom_7 : Cond.code Lib.Math.min.name Lib.Math.min.code 2 (some .int) ∈ wsX7_copyFrom := List.mem_of_getElem? (i := 8) rfl
theorem hd_X7_copyFrom : kHd yX7_copyFrom 1 := by decide +kernel
set_option maxHeartbeats 4000000 in
set_option maxRecDepth 100000 in
theorem t_X7_copyFrom {g : kG} {cI cS : ClassId} {ad : Nat → Nat} (X : Kx g cI cS cX7_copyFrom RX7 wsX7_copyFrom 2 rm_X7_copyFrom) {Cr : kS} (hI : kInj 132 ad) (Y : Kw g (WC cI cS ad) (kAd 132 ad)) (hR : kRV g (WC cI cS ad) 2 cX7_copyFrom Cr) (N : Nat) (C : kS) (k : Nat) (k1 : Nat) (hk : kd k = 7) (hk1 : kd k1 = 7) (hf : f_X7_copyFrom N C k k1 = some Cr) : J g (WC cI cS ad) 2 C 0 [some (.ref (ad k)), some (.ref (ad k1))] [] := by
  unfold f_X7_copyFrom at hf
  refine j_aload_n (pc := 0) X dX7_copyFrom_0 rfl ?_
  refine j_get (pc := 1) X iw_X7_copyFrom_X7 (wc7 hk) rfl 2 (Nat.le_of_ble_eq_true rfl) lk_X7_copyFrom_0 (v := .ref (ad (k + 1))) rfl dX7_copyFrom_1 ?_
  refine j_aload_n (pc := 4) X dX7_copyFrom_4 rfl ?_
  refine j_get (pc := 5) X iw_X7_copyFrom_X7 (wc7 hk1) rfl 2 (Nat.le_of_ble_eq_true rfl) lk_X7_copyFrom_0 (v := .ref (ad (k1 + 1))) rfl dX7_copyFrom_5 ?_
  obtain ⟨C2, h1, hf⟩ := kB hf
  refine j_callV (pc := 8) X Y (c_X3_copyFrom hI N C (k + 1) (kd7_1 hk) (k1 + 1) (kd7_1 hk1) h1) gX7_copyFrom_X3_copyFrom rfl ⟨rfl, rfl⟩ rfl hd_X3_copyFrom ⟨(Nat.le_of_ble_eq_true rfl), (Nat.le_of_ble_eq_true rfl)⟩ (wc3 (kd7_1 hk)) rfl rfl rfl (Nat.le_of_ble_eq_true rfl) rfl dX7_copyFrom_8 ?_
  refine j_aload_n (pc := 11) X dX7_copyFrom_11 rfl ?_
  refine j_get (pc := 12) X iw_X7_copyFrom_X7 (wc7 hk) rfl 3 (Nat.le_of_ble_eq_true rfl) lk_X7_copyFrom_1 (v := .ref (ad (k + 3))) rfl dX7_copyFrom_12 ?_
  refine j_aload_n (pc := 15) X dX7_copyFrom_15 rfl ?_
  refine j_get (pc := 16) X iw_X7_copyFrom_X7 (wc7 hk1) rfl 3 (Nat.le_of_ble_eq_true rfl) lk_X7_copyFrom_1 (v := .ref (ad (k1 + 3))) rfl dX7_copyFrom_16 ?_
  obtain ⟨C4, h3, hf⟩ := kB hf
  refine j_callV (pc := 19) X Y (c_X3_copyFrom hI N C2 (k + 3) (kd7_3 hk) (k1 + 3) (kd7_3 hk1) h3) gX7_copyFrom_X3_copyFrom rfl ⟨rfl, rfl⟩ rfl hd_X3_copyFrom ⟨(Nat.le_of_ble_eq_true rfl), (Nat.le_of_ble_eq_true rfl)⟩ (wc3 (kd7_3 hk)) rfl rfl rfl (Nat.le_of_ble_eq_true rfl) rfl dX7_copyFrom_19 ?_
  refine j_aload_n (pc := 22) X dX7_copyFrom_22 rfl ?_
  refine j_aload_n (pc := 23) X dX7_copyFrom_23 rfl ?_
  refine j_get (pc := 24) X iw_X7_copyFrom_X7 (wc7 hk) rfl 0 (Nat.le_of_ble_eq_true rfl) lk_X7_copyFrom_2 (v := .int (C4 k 0)) rfl dX7_copyFrom_24 ?_
  refine j_aload_n (pc := 27) X dX7_copyFrom_27 rfl ?_
  refine j_get (pc := 28) X iw_X7_copyFrom_X7 (wc7 hk1) rfl 4 (Nat.le_of_ble_eq_true rfl) lk_X7_copyFrom_3 (v := .int (C4 k1 4)) rfl dX7_copyFrom_28 ?_
  obtain ⟨x5, ex5, hf⟩ := jn_s hf
  refine j_mmin (pc := 31) X lk_X7_copyFrom_4 lk_X7_copyFrom_5 lk_X7_copyFrom_6 lk_X7_copyFrom_7 (Nat.le_of_ble_eq_true rfl) (Nat.le_of_ble_eq_true rfl) dX7_copyFrom_31 ?_
  rw [← ex5]
  obtain ⟨C6, eC6, hf⟩ := jn_s hf
  refine j_put (C' := C6) (pc := 34) X Y iw_X7_copyFrom_X7 tyX7 tyX7_ok nmX7 (wc7 hk) rfl 4 (Nat.le_of_ble_eq_true rfl) lk_X7_copyFrom_3 rfl (tyX7_ok 4 (Nat.le_of_ble_eq_true rfl)) (Nat.le_of_ble_eq_true rfl) dX7_copyFrom_34 (by rw [eC6]; exact sc7_4 hk _) ?_
  exact j_retV hR dX7_copyFrom_37 hf
theorem c_X7_copyFrom {l : Launch} {D : va_G} {cI cS : ClassId} {ad : Nat → Nat} (hI : kInj 132 ad) (N : Nat) (C : kS) (k : Nat) (hk : kd k = 7) (k1 : Nat) (hk1 : kd k1 = 7) {Cr : kS} (hf : f_X7_copyFrom N C k k1 = some Cr) : mV l yX7_copyFrom wsX7_copyFrom rm_X7_copyFrom D cI cS (WC cI cS ad) (kAd 132 ad) C [.ref (ad k), .ref (ad k1)] Cr :=
  mV.of (by decide) rfl rfl (Nat.le_of_ble_eq_true rfl) (WC_D hI) (fun g X Y hR => t_X7_copyFrom X hI Y hR N C k k1 hk hk1 hf)
abbrev rm_X5_copyFrom : Room := { frames := 3, cells := 0, slots := 0, locals := 82 }
theorem lk_X5_copyFrom_0 : Cond.fieldLink RX5 14 "BlackBars$State" "page" "LBlackBars$Words;" ∈ wsX5_copyFrom := List.mem_of_getElem? (i := 1) rfl
theorem iw_X5_copyFrom_X5 : ∀ w ∈ wsX50, w ∈ wsX5_copyFrom := fun _ h => List.mem_cons_of_mem _ (List.mem_append_left _ (List.mem_append_left _ (List.mem_append_right _ h)))
theorem lk_X5_copyFrom_1 : Cond.fieldLink RX5 20 "BlackBars$State" "names" "LBlackBars$Words;" ∈ wsX5_copyFrom := List.mem_of_getElem? (i := 2) rfl
theorem lk_X5_copyFrom_2 : Cond.fieldLink RX5 23 "BlackBars$State" "endings" "LBlackBars$Words;" ∈ wsX5_copyFrom := List.mem_of_getElem? (i := 3) rfl
theorem lk_X5_copyFrom_3 : Cond.fieldLink RX5 35 "BlackBars$State" "letterWidths" "LBlackBars$Row;" ∈ wsX5_copyFrom := List.mem_of_getElem? (i := 4) rfl
theorem lk_X5_copyFrom_4 : Cond.fieldLink RX5 42 "BlackBars$State" "settings" "LBlackBars$Row;" ∈ wsX5_copyFrom := List.mem_of_getElem? (i := 5) rfl
theorem hd_X5_copyFrom : kHd yX5_copyFrom 1 := by decide +kernel
set_option maxHeartbeats 4000000 in
set_option maxRecDepth 100000 in
theorem t_X5_copyFrom {g : kG} {cI cS : ClassId} {ad : Nat → Nat} (X : Kx g cI cS cX5_copyFrom RX5 wsX5_copyFrom 2 rm_X5_copyFrom) {Cr : kS} (hI : kInj 132 ad) (Y : Kw g (WC cI cS ad) (kAd 132 ad)) (hR : kRV g (WC cI cS ad) 2 cX5_copyFrom Cr) (N : Nat) (C : kS) (k : Nat) (k1 : Nat) (hk : kd k = 5) (hk1 : kd k1 = 5) (hf : f_X5_copyFrom N C k k1 = some Cr) : J g (WC cI cS ad) 2 C 0 [some (.ref (ad k)), some (.ref (ad k1))] [] := by
  unfold f_X5_copyFrom at hf
  refine j_aload_n (pc := 0) X dX5_copyFrom_0 rfl ?_
  refine j_get (pc := 1) X iw_X5_copyFrom_X5 (wc5 hk) rfl 0 (Nat.le_of_ble_eq_true rfl) lk_X5_copyFrom_0 (v := .ref (ad (k + 1))) rfl dX5_copyFrom_1 ?_
  refine j_aload_n (pc := 4) X dX5_copyFrom_4 rfl ?_
  refine j_get (pc := 5) X iw_X5_copyFrom_X5 (wc5 hk1) rfl 0 (Nat.le_of_ble_eq_true rfl) lk_X5_copyFrom_0 (v := .ref (ad (k1 + 1))) rfl dX5_copyFrom_5 ?_
  obtain ⟨C2, h1, hf⟩ := kB hf
  refine j_callV (pc := 8) X Y (c_X7_copyFrom hI N C (k + 1) (kd5_1 hk) (k1 + 1) (kd5_1 hk1) h1) gX5_copyFrom_X7_copyFrom rfl ⟨rfl, rfl⟩ rfl hd_X7_copyFrom ⟨(Nat.le_of_ble_eq_true rfl), (Nat.le_of_ble_eq_true rfl)⟩ (wc7 (kd5_1 hk)) rfl rfl rfl (Nat.le_of_ble_eq_true rfl) rfl dX5_copyFrom_8 ?_
  refine j_aload_n (pc := 11) X dX5_copyFrom_11 rfl ?_
  refine j_get (pc := 12) X iw_X5_copyFrom_X5 (wc5 hk) rfl 1 (Nat.le_of_ble_eq_true rfl) lk_X5_copyFrom_1 (v := .ref (ad (k + 6))) rfl dX5_copyFrom_12 ?_
  refine j_aload_n (pc := 15) X dX5_copyFrom_15 rfl ?_
  refine j_get (pc := 16) X iw_X5_copyFrom_X5 (wc5 hk1) rfl 1 (Nat.le_of_ble_eq_true rfl) lk_X5_copyFrom_1 (v := .ref (ad (k1 + 6))) rfl dX5_copyFrom_16 ?_
  obtain ⟨C4, h3, hf⟩ := kB hf
  refine j_callV (pc := 19) X Y (c_X7_copyFrom hI N C2 (k + 6) (kd5_6 hk) (k1 + 6) (kd5_6 hk1) h3) gX5_copyFrom_X7_copyFrom rfl ⟨rfl, rfl⟩ rfl hd_X7_copyFrom ⟨(Nat.le_of_ble_eq_true rfl), (Nat.le_of_ble_eq_true rfl)⟩ (wc7 (kd5_6 hk)) rfl rfl rfl (Nat.le_of_ble_eq_true rfl) rfl dX5_copyFrom_19 ?_
  refine j_aload_n (pc := 22) X dX5_copyFrom_22 rfl ?_
  refine j_get (pc := 23) X iw_X5_copyFrom_X5 (wc5 hk) rfl 2 (Nat.le_of_ble_eq_true rfl) lk_X5_copyFrom_2 (v := .ref (ad (k + 11))) rfl dX5_copyFrom_23 ?_
  refine j_aload_n (pc := 26) X dX5_copyFrom_26 rfl ?_
  refine j_get (pc := 27) X iw_X5_copyFrom_X5 (wc5 hk1) rfl 2 (Nat.le_of_ble_eq_true rfl) lk_X5_copyFrom_2 (v := .ref (ad (k1 + 11))) rfl dX5_copyFrom_27 ?_
  obtain ⟨C6, h5, hf⟩ := kB hf
  refine j_callV (pc := 30) X Y (c_X7_copyFrom hI N C4 (k + 11) (kd5_11 hk) (k1 + 11) (kd5_11 hk1) h5) gX5_copyFrom_X7_copyFrom rfl ⟨rfl, rfl⟩ rfl hd_X7_copyFrom ⟨(Nat.le_of_ble_eq_true rfl), (Nat.le_of_ble_eq_true rfl)⟩ (wc7 (kd5_11 hk)) rfl rfl rfl (Nat.le_of_ble_eq_true rfl) rfl dX5_copyFrom_30 ?_
  refine j_aload_n (pc := 33) X dX5_copyFrom_33 rfl ?_
  refine j_get (pc := 34) X iw_X5_copyFrom_X5 (wc5 hk) rfl 3 (Nat.le_of_ble_eq_true rfl) lk_X5_copyFrom_3 (v := .ref (ad (k + 16))) rfl dX5_copyFrom_34 ?_
  refine j_aload_n (pc := 37) X dX5_copyFrom_37 rfl ?_
  refine j_get (pc := 38) X iw_X5_copyFrom_X5 (wc5 hk1) rfl 3 (Nat.le_of_ble_eq_true rfl) lk_X5_copyFrom_3 (v := .ref (ad (k1 + 16))) rfl dX5_copyFrom_38 ?_
  obtain ⟨C8, h7, hf⟩ := kB hf
  refine j_callV (pc := 41) X Y (c_X3_copyFrom hI N C6 (k + 16) (kd5_16 hk) (k1 + 16) (kd5_16 hk1) h7) gX5_copyFrom_X3_copyFrom rfl ⟨rfl, rfl⟩ rfl hd_X3_copyFrom ⟨(Nat.le_of_ble_eq_true rfl), (Nat.le_of_ble_eq_true rfl)⟩ (wc3 (kd5_16 hk)) rfl rfl rfl (Nat.le_of_ble_eq_true rfl) rfl dX5_copyFrom_41 ?_
  refine j_aload_n (pc := 44) X dX5_copyFrom_44 rfl ?_
  refine j_get (pc := 45) X iw_X5_copyFrom_X5 (wc5 hk) rfl 4 (Nat.le_of_ble_eq_true rfl) lk_X5_copyFrom_4 (v := .ref (ad (k + 18))) rfl dX5_copyFrom_45 ?_
  refine j_aload_n (pc := 48) X dX5_copyFrom_48 rfl ?_
  refine j_get (pc := 49) X iw_X5_copyFrom_X5 (wc5 hk1) rfl 4 (Nat.le_of_ble_eq_true rfl) lk_X5_copyFrom_4 (v := .ref (ad (k1 + 18))) rfl dX5_copyFrom_49 ?_
  obtain ⟨C10, h9, hf⟩ := kB hf
  refine j_callV (pc := 52) X Y (c_X3_copyFrom hI N C8 (k + 18) (kd5_18 hk) (k1 + 18) (kd5_18 hk1) h9) gX5_copyFrom_X3_copyFrom rfl ⟨rfl, rfl⟩ rfl hd_X3_copyFrom ⟨(Nat.le_of_ble_eq_true rfl), (Nat.le_of_ble_eq_true rfl)⟩ (wc3 (kd5_18 hk)) rfl rfl rfl (Nat.le_of_ble_eq_true rfl) rfl dX5_copyFrom_52 ?_
  exact j_retV hR dX5_copyFrom_55 hf
theorem c_X5_copyFrom {l : Launch} {D : va_G} {cI cS : ClassId} {ad : Nat → Nat} (hI : kInj 132 ad) (N : Nat) (C : kS) (k : Nat) (hk : kd k = 5) (k1 : Nat) (hk1 : kd k1 = 5) {Cr : kS} (hf : f_X5_copyFrom N C k k1 = some Cr) : mV l yX5_copyFrom wsX5_copyFrom rm_X5_copyFrom D cI cS (WC cI cS ad) (kAd 132 ad) C [.ref (ad k), .ref (ad k1)] Cr :=
  mV.of (by decide) rfl rfl (Nat.le_of_ble_eq_true rfl) (WC_D hI) (fun g X Y hR => t_X5_copyFrom X hI Y hR N C k k1 hk hk1 hf)
abbrev rm_X2_keep : Room := { frames := 4, cells := 0, slots := 0, locals := 103 }
theorem lk_X2_keep_0 : Cond.fieldLink RX2 18 "BlackBars$History" "size" "I" ∈ wsX2_keep := List.mem_of_getElem? (i := 1) rfl
theorem iw_X2_keep_X2 : ∀ w ∈ wsX20, w ∈ wsX2_keep := fun _ h => List.mem_cons_of_mem _ (List.mem_append_left _ (List.mem_append_left _ (List.mem_append_left _ (List.mem_append_right _ h))))
theorem lk_X2_keep_1 : Cond.fieldLink RX2 11 "BlackBars$History" "states" "[LBlackBars$State;" ∈ wsX2_keep := List.mem_of_getElem? (i := 2) rfl
theorem hd_X2_keep : kHd yX2_keep 1 := by decide +kernel
set_option maxHeartbeats 4000000 in
set_option maxRecDepth 100000 in
theorem t_X2_keep {g : kG} {cI cS : ClassId} {ad : Nat → Nat} (X : Kx g cI cS cX2_keep RX2 wsX2_keep 3 rm_X2_keep) {Cr : kS} (hI : kInj 132 ad) (Y : Kw g (WC cI cS ad) (kAd 132 ad)) (hR : kRV g (WC cI cS ad) 3 cX2_keep Cr) (N : Nat) (C : kS)   (hf : f_X2_keep N C = some Cr) : J g (WC cI cS ad) 3 C 0 [some (.ref (ad 24)), some (.ref (ad 4)), none] [] := by
  unfold f_X2_keep at hf
  refine j_aload_n (pc := 0) X dX2_keep_0 rfl ?_
  refine j_get (pc := 1) X iw_X2_keep_X2 (wc2 kd_24) rfl 1 (Nat.le_of_ble_eq_true rfl) lk_X2_keep_0 (v := .int (C 24 1)) rfl dX2_keep_1 ?_
  refine j_aload_n (pc := 4) X dX2_keep_4 rfl ?_
  refine j_get (pc := 5) X iw_X2_keep_X2 (wc2 kd_24) rfl 0 (Nat.le_of_ble_eq_true rfl) lk_X2_keep_1 (v := .ref (ad 25)) rfl dX2_keep_5 ?_
  refine j_alen (pc := 8) X (wcR kd_25) 1 rfl (v := nI (ln 25)) rfl dX2_keep_8 ?_
  obtain ⟨j29_1, ej29_1, hf⟩ := jn_s hf
  have hj29_1 : ∀ (C1 : kS), j29_1 C1 = some Cr → J g (WC cI cS ad) 3 C1 29 [some (.ref (ad 24)), some (.ref (ad 4)), none] [] := by
    intro C1 hf
    have hf := jE1 ej29_1 hf
    refine j_aload_n (pc := 29) X dX2_keep_29 rfl ?_
    obtain ⟨o4, h3, hf⟩ := kB hf
    refine j_callQ (pc := 30) X (c_X2_latest N C1  h3) gX2_keep_X2_latest rfl ⟨rfl, rfl⟩ rfl hd_X2_latest ⟨(Nat.le_of_ble_eq_true rfl), (Nat.le_of_ble_eq_true rfl)⟩ (wc2 kd_24) rfl rfl rfl (Nat.le_of_ble_eq_true rfl) rfl dX2_keep_30 ?_
    rcases ho4 : o4 with _ | q5
    · rw [ho4] at hf
      simp only [oM] at hf
      refine j_null3 (lv' := [some (.ref (ad 24)), some (.ref (ad 4)), none]) (tgt := 43) (pc := 33) X dX2_keep_33 dX2_keep_34 dX2_keep_35 rfl (Nat.le_of_ble_eq_true rfl) (And.intro rfl (And.intro rfl trivial)) ?_
      exact j_retV hR dX2_keep_43 hf
    · rw [ho4] at hf
      simp only [oM] at hf
      obtain ⟨hkq5, hf⟩ := gIf_s hf
      refine j_astore_n (pc := 33) X dX2_keep_33 (Nat.le_of_ble_eq_true rfl) (lv' := [some (.ref (ad 24)), some (.ref (ad 4)), some (.ref (ad q5.toNatClampNeg))]) rfl ?_
      refine j_aload_n (pc := 34) X dX2_keep_34 rfl ?_
      refine j_nonnull (pc := 35) X dX2_keep_35 ?_
      refine j_aload_n (pc := 38) X dX2_keep_38 rfl ?_
      refine j_aload_n (pc := 39) X dX2_keep_39 rfl ?_
      obtain ⟨C7, h6, hf⟩ := kB hf
      refine j_callV (pc := 40) X Y (c_X5_copyFrom hI N C1 q5.toNatClampNeg hkq5 4 kd_4 h6) gX2_keep_X5_copyFrom rfl ⟨rfl, rfl⟩ rfl hd_X5_copyFrom ⟨(Nat.le_of_ble_eq_true rfl), (Nat.le_of_ble_eq_true rfl)⟩ (wc5 hkq5) rfl rfl rfl (Nat.le_of_ble_eq_true rfl) rfl dX2_keep_40 ?_
      exact j_retV hR dX2_keep_43 hf
  refine j_icmp_ge (tgt := 25) (pc := 9) X dX2_keep_9 rfl (fun c8 => ?_) (fun c8 => ?_)
  · have hf := kT c8 hf
    refine j_aload_n (pc := 25) X dX2_keep_25 rfl ?_
    obtain ⟨C10, h9, hf⟩ := kB hf
    refine j_callV (pc := 26) X Y (c_X2_moveOldestToEnd hI N C  h9) gX2_keep_X2_moveOldestToEnd rfl ⟨rfl, rfl⟩ rfl hd_X2_moveOldestToEnd ⟨(Nat.le_of_ble_eq_true rfl), (Nat.le_of_ble_eq_true rfl)⟩ (wc2 kd_24) rfl rfl rfl (Nat.le_of_ble_eq_true rfl) rfl dX2_keep_26 ?_
    exact hj29_1 _ hf
  · have hf := kF c8 hf
    refine j_aload_n (pc := 12) X dX2_keep_12 rfl ?_
    refine j_dup (pc := 13) X dX2_keep_13 rfl ?_
    refine j_get (pc := 14) X iw_X2_keep_X2 (wc2 kd_24) rfl 1 (Nat.le_of_ble_eq_true rfl) lk_X2_keep_0 (v := .int (C 24 1)) rfl dX2_keep_14 ?_
    refine j_iconst (pc := 17) X dX2_keep_17 kc_1 ?_
    refine j_iadd (pc := 18) X dX2_keep_18 ?_
    obtain ⟨C11, eC11, hf⟩ := jn_s hf
    refine j_put (C' := C11) (pc := 19) X Y iw_X2_keep_X2 tyX2 tyX2_ok nmX2 (wc2 kd_24) rfl 1 (Nat.le_of_ble_eq_true rfl) lk_X2_keep_0 rfl (tyX2_ok 1 (Nat.le_of_ble_eq_true rfl)) (Nat.le_of_ble_eq_true rfl) dX2_keep_19 (by rw [eC11]; exact sc2_1 kd_24 _) ?_
    refine j_goto (tgt := 29) (pc := 22) X dX2_keep_22 rfl ?_
    exact hj29_1 _ hf
theorem c_X2_keep {l : Launch} {D : va_G} {cI cS : ClassId} {ad : Nat → Nat} (hI : kInj 132 ad) (N : Nat) (C : kS)  {Cr : kS} (hf : f_X2_keep N C = some Cr) : mV l yX2_keep wsX2_keep rm_X2_keep D cI cS (WC cI cS ad) (kAd 132 ad) C [.ref (ad 24), .ref (ad 4)] Cr :=
  mV.of (by decide) rfl rfl (Nat.le_of_ble_eq_true rfl) (WC_D hI) (fun g X Y hR => t_X2_keep X hI Y hR N C   hf)
abbrev rm_X2_size : Room := { frames := 0, cells := 0, slots := 0, locals := 0 }
theorem lk_X2_size_0 : Cond.fieldLink RX2 18 "BlackBars$History" "size" "I" ∈ wsX2_size := List.mem_of_getElem? (i := 1) rfl
theorem iw_X2_size_X2 : ∀ w ∈ wsX20, w ∈ wsX2_size := fun _ h => List.mem_cons_of_mem _ (List.mem_append_right _ h)
theorem hd_X2_size : kHd yX2_size 0 := by decide +kernel
set_option maxHeartbeats 4000000 in
set_option maxRecDepth 100000 in
theorem t_X2_size {g : kG} {cI cS : ClassId} {ad : Nat → Nat} {C : kS} (X : Kx g cI cS cX2_size RX2 wsX2_size 1 rm_X2_size) {r : Int32} (hR : kRI g (WC cI cS ad) 1 cX2_size .int C r) (N : Nat)   (hf : f_X2_size N C = some r) : J g (WC cI cS ad) 1 C 0 [some (.ref (ad 24))] [] := by
  unfold f_X2_size at hf
  refine j_aload_n (pc := 0) X dX2_size_0 rfl ?_
  refine j_get (pc := 1) X iw_X2_size_X2 (wc2 kd_24) rfl 1 (Nat.le_of_ble_eq_true rfl) lk_X2_size_0 (v := .int (C 24 1)) rfl dX2_size_1 ?_
  exact j_retI hR dX2_size_4 hf
theorem c_X2_size {l : Launch} {D : va_G} {cI cS : ClassId} {ad : Nat → Nat} (N : Nat) (C : kS)  {r : Int32} (hf : f_X2_size N C = some r) : mI l yX2_size wsX2_size rm_X2_size D cI cS (WC cI cS ad) C [.ref (ad 24)] r :=
  mI.of (by decide) rfl rfl (Nat.le_of_ble_eq_true rfl) (fun g X hR => t_X2_size X  hR N   hf)
abbrev rm_X4_isHidden : Room := { frames := 1, cells := 0, slots := 0, locals := 21 }
theorem lk_X4_isHidden_0 : Cond.fieldLink RX4 24 "BlackBars$Sheet" "formsOfWords" "LBlackBars$Row;" ∈ wsX4_isHidden := List.mem_of_getElem? (i := 1) rfl
theorem iw_X4_isHidden_X4 : ∀ w ∈ wsX40, w ∈ wsX4_isHidden := fun _ h => List.mem_cons_of_mem _ (List.mem_append_left _ (List.mem_append_right _ h))
theorem hd_X4_isHidden : kHd yX4_isHidden 1 := by decide +kernel
set_option maxHeartbeats 4000000 in
set_option maxRecDepth 100000 in
theorem t_X4_isHidden {g : kG} {cI cS : ClassId} {ad : Nat → Nat} {C : kS} (X : Kx g cI cS cX4_isHidden RX4 wsX4_isHidden 2 rm_X4_isHidden) {r : Int32} (hR : kRI g (WC cI cS ad) 2 cX4_isHidden .boolean C r) (N : Nat) (a1 : Int32)  (hf : f_X4_isHidden N C a1 = some r) : J g (WC cI cS ad) 2 C 0 [some (.ref (ad 119)), some (.int a1)] [] := by
  unfold f_X4_isHidden at hf
  refine j_aload_n (pc := 0) X dX4_isHidden_0 rfl ?_
  refine j_get (pc := 1) X iw_X4_isHidden_X4 (wc4 kd_119) rfl 2 (Nat.le_of_ble_eq_true rfl) lk_X4_isHidden_0 (v := .ref (ad 120)) rfl dX4_isHidden_1 ?_
  refine j_iload_n (pc := 4) X dX4_isHidden_4 rfl ?_
  obtain ⟨r2, h1, hf⟩ := kB hf
  refine j_callI (pc := 5) X (c_X3_at N C 120 kd_120 a1 h1) gX4_isHidden_X3_at rfl ⟨rfl, rfl⟩ rfl hd_X3_at ⟨(Nat.le_of_ble_eq_true rfl), (Nat.le_of_ble_eq_true rfl)⟩ (wc3 kd_120) rfl rfl rfl (Nat.le_of_ble_eq_true rfl) rfl dX4_isHidden_5 ?_
  refine j_iconst (pc := 8) X dX4_isHidden_8 kc_m1 ?_
  obtain ⟨j17_3, ej17_3, hf⟩ := jn_s hf
  have hj17_3 : ∀ (t3 : Int32), j17_3 t3 = some r → J g (WC cI cS ad) 2 C 17 [some (.ref (ad 119)), some (.int a1)] [.int t3] := by
    intro t3 hf
    have hf := jE1 ej17_3 hf
    exact j_retB hR dX4_isHidden_17 hf
  refine j_icmp_eq (tgt := 16) (pc := 9) X dX4_isHidden_9 rfl (fun c5 => ?_) (fun c5 => ?_)
  · have hf := kT c5 hf
    refine j_iconst (pc := 16) X dX4_isHidden_16 kc_0 ?_
    exact hj17_3 _ hf
  · have hf := kF c5 hf
    refine j_iconst (pc := 12) X dX4_isHidden_12 kc_1 ?_
    refine j_goto (tgt := 17) (pc := 13) X dX4_isHidden_13 rfl ?_
    exact hj17_3 _ hf
theorem c_X4_isHidden {l : Launch} {D : va_G} {cI cS : ClassId} {ad : Nat → Nat} (N : Nat) (C : kS) (a1 : Int32) {r : Int32} (hf : f_X4_isHidden N C a1 = some r) : mI l yX4_isHidden wsX4_isHidden rm_X4_isHidden D cI cS (WC cI cS ad) C [.ref (ad 119), .int a1] r :=
  mI.of (by decide) rfl rfl (Nat.le_of_ble_eq_true rfl) (fun g X hR => t_X4_isHidden X  hR N a1  hf)
abbrev rm_X4_barsBetween : Room := { frames := 2, cells := 0, slots := 0, locals := 42 }
theorem hd_X4_barsBetween : kHd yX4_barsBetween 2 := by decide +kernel
set_option maxHeartbeats 4000000 in
set_option maxRecDepth 100000 in
theorem lt_X4_barsBetween_5 {g : kG} {cI cS : ClassId} {ad : Nat → Nat} {C : kS} (X : Kx g cI cS cX4_barsBetween RX4 wsX4_barsBetween 5 rm_X4_barsBetween) {r : Int32} (hR : kRI g (WC cI cS ad) 5 cX4_barsBetween .int C r) (N : Nat) (a1 : Int32) (a2 : Int32)  (k29_1 : Int32 → Option (Int32)) (hk29_1 : ∀ (x1 : Int32), k29_1 x1 = some r → J g (WC cI cS ad) 5 C 29 [some (.ref (ad 119)), some (.int a1), some (.int a2), some (.int x1), none] []) : ∀ (n : Nat) (x3 : Int32) (x4 : Int32), lp_X4_barsBetween_5 N C a2 k29_1 n x3 x4 = some r → J g (WC cI cS ad) 5 C 5 [some (.ref (ad 119)), some (.int a1), some (.int a2), some (.int x3), some (.int x4)] [] := by
  intro n
  induction n with
  | zero =>
    intro x3 x4 hf
    rw [lp_X4_barsBetween_5] at hf
    cases hf
  | succ n ih =>
    intro x3 x4 hf
    rw [lp_X4_barsBetween_5] at hf
    refine j_iload (pc := 5) X dX4_barsBetween_5 rfl ?_
    refine j_iload_n (pc := 7) X dX4_barsBetween_7 rfl ?_
    refine j_icmp_ge (tgt := 29) (pc := 8) X dX4_barsBetween_8 rfl (fun c5 => ?_) (fun c5 => ?_)
    · have hf := kT c5 hf
      refine j_weak (lv' := [some (.ref (ad 119)), some (.int a1), some (.int a2), some (.int x3), none]) (And.intro rfl (And.intro rfl (And.intro rfl (And.intro rfl trivial)))) ?_
      exact hk29_1 _ hf
    · have hf := kF c5 hf
      refine j_aload_n (pc := 11) X dX4_barsBetween_11 rfl ?_
      refine j_iload (pc := 12) X dX4_barsBetween_12 rfl ?_
      obtain ⟨r7, h6, hf⟩ := kB hf
      refine j_callI (pc := 14) X (c_X4_isHidden N C x4 h6) gX4_barsBetween_X4_isHidden rfl ⟨rfl, rfl⟩ rfl hd_X4_isHidden ⟨(Nat.le_of_ble_eq_true rfl), (Nat.le_of_ble_eq_true rfl)⟩ (wc4 kd_119) rfl rfl rfl (Nat.le_of_ble_eq_true rfl) rfl dX4_barsBetween_14 ?_
      obtain ⟨j23_8, ej23_8, hf⟩ := jn_s hf
      have hj23_8 : ∀ (x8 : Int32), j23_8 x8 = some r → J g (WC cI cS ad) 5 C 23 [some (.ref (ad 119)), some (.int a1), some (.int a2), some (.int x8), some (.int x4)] [] := by
        intro x8 hf
        have hf := jE1 ej23_8 hf
        refine j_iinc (pc := 23) X dX4_barsBetween_23 rfl (v := x4 + 1) (by rw [kc_1]) (Nat.le_of_ble_eq_true rfl) (lv' := [some (.ref (ad 119)), some (.int a1), some (.int a2), some (.int x8), some (.int (x4 + 1))]) rfl ?_
        refine j_goto (tgt := 5) (pc := 26) X dX4_barsBetween_26 rfl ?_
        exact ih _ _ hf
      refine j_if_eq (tgt := 23) (pc := 17) X dX4_barsBetween_17 rfl (fun c10 => ?_) (fun c10 => ?_)
      · have hf := kT c10 hf
        exact hj23_8 _ hf
      · have hf := kF c10 hf
        refine j_iinc (pc := 20) X dX4_barsBetween_20 rfl (v := x3 + 1) (by rw [kc_1]) (Nat.le_of_ble_eq_true rfl) (lv' := [some (.ref (ad 119)), some (.int a1), some (.int a2), some (.int (x3 + 1)), some (.int x4)]) rfl ?_
        exact hj23_8 _ hf
set_option maxHeartbeats 4000000 in
set_option maxRecDepth 100000 in
theorem t_X4_barsBetween {g : kG} {cI cS : ClassId} {ad : Nat → Nat} {C : kS} (X : Kx g cI cS cX4_barsBetween RX4 wsX4_barsBetween 5 rm_X4_barsBetween) {r : Int32} (hR : kRI g (WC cI cS ad) 5 cX4_barsBetween .int C r) (N : Nat) (a1 : Int32) (a2 : Int32)  (hf : f_X4_barsBetween N C a1 a2 = some r) : J g (WC cI cS ad) 5 C 0 [some (.ref (ad 119)), some (.int a1), some (.int a2), none, none] [] := by
  unfold f_X4_barsBetween at hf
  refine j_iconst (pc := 0) X dX4_barsBetween_0 kc_0 ?_
  refine j_istore_n (pc := 1) X dX4_barsBetween_1 (Nat.le_of_ble_eq_true rfl) (lv' := [some (.ref (ad 119)), some (.int a1), some (.int a2), some (.int 0), none]) rfl ?_
  refine j_iload_n (pc := 2) X dX4_barsBetween_2 rfl ?_
  refine j_istore (pc := 3) X dX4_barsBetween_3 (Nat.le_of_ble_eq_true rfl) (lv' := [some (.ref (ad 119)), some (.int a1), some (.int a2), some (.int 0), some (.int a1)]) rfl ?_
  obtain ⟨k29_1, ek29_1, hf⟩ := jn_s hf
  have hk29_1 : ∀ (x1 : Int32), k29_1 x1 = some r → J g (WC cI cS ad) 5 C 29 [some (.ref (ad 119)), some (.int a1), some (.int a2), some (.int x1), none] [] := by
    intro x1 hf
    have hf := jE1 ek29_1 hf
    refine j_iload_n (pc := 29) X dX4_barsBetween_29 rfl ?_
    exact j_retI hR dX4_barsBetween_30 hf
  exact lt_X4_barsBetween_5 X hR N a1 a2    k29_1 hk29_1 N _ _ hf
theorem c_X4_barsBetween {l : Launch} {D : va_G} {cI cS : ClassId} {ad : Nat → Nat} (N : Nat) (C : kS) (a1 : Int32) (a2 : Int32) {r : Int32} (hf : f_X4_barsBetween N C a1 a2 = some r) : mI l yX4_barsBetween wsX4_barsBetween rm_X4_barsBetween D cI cS (WC cI cS ad) C [.ref (ad 119), .int a1, .int a2] r :=
  mI.of (by decide) rfl rfl (Nat.le_of_ble_eq_true rfl) (fun g X hR => t_X4_barsBetween X  hR N a1 a2  hf)
abbrev rm_X4_formOf : Room := { frames := 1, cells := 0, slots := 0, locals := 21 }
theorem lk_X4_formOf_0 : Cond.fieldLink RX4 24 "BlackBars$Sheet" "formsOfWords" "LBlackBars$Row;" ∈ wsX4_formOf := List.mem_of_getElem? (i := 1) rfl
theorem iw_X4_formOf_X4 : ∀ w ∈ wsX40, w ∈ wsX4_formOf := fun _ h => List.mem_cons_of_mem _ (List.mem_append_left _ (List.mem_append_right _ h))
theorem hd_X4_formOf : kHd yX4_formOf 1 := by decide +kernel
set_option maxHeartbeats 4000000 in
set_option maxRecDepth 100000 in
theorem t_X4_formOf {g : kG} {cI cS : ClassId} {ad : Nat → Nat} {C : kS} (X : Kx g cI cS cX4_formOf RX4 wsX4_formOf 2 rm_X4_formOf) {r : Int32} (hR : kRI g (WC cI cS ad) 2 cX4_formOf .int C r) (N : Nat) (a1 : Int32)  (hf : f_X4_formOf N C a1 = some r) : J g (WC cI cS ad) 2 C 0 [some (.ref (ad 119)), some (.int a1)] [] := by
  unfold f_X4_formOf at hf
  refine j_aload_n (pc := 0) X dX4_formOf_0 rfl ?_
  refine j_get (pc := 1) X iw_X4_formOf_X4 (wc4 kd_119) rfl 2 (Nat.le_of_ble_eq_true rfl) lk_X4_formOf_0 (v := .ref (ad 120)) rfl dX4_formOf_1 ?_
  refine j_iload_n (pc := 4) X dX4_formOf_4 rfl ?_
  obtain ⟨r2, h1, hf⟩ := kB hf
  refine j_callI (pc := 5) X (c_X3_at N C 120 kd_120 a1 h1) gX4_formOf_X3_at rfl ⟨rfl, rfl⟩ rfl hd_X3_at ⟨(Nat.le_of_ble_eq_true rfl), (Nat.le_of_ble_eq_true rfl)⟩ (wc3 kd_120) rfl rfl rfl (Nat.le_of_ble_eq_true rfl) rfl dX4_formOf_5 ?_
  exact j_retI hR dX4_formOf_8 hf
theorem c_X4_formOf {l : Launch} {D : va_G} {cI cS : ClassId} {ad : Nat → Nat} (N : Nat) (C : kS) (a1 : Int32) {r : Int32} (hf : f_X4_formOf N C a1 = some r) : mI l yX4_formOf wsX4_formOf rm_X4_formOf D cI cS (WC cI cS ad) C [.ref (ad 119), .int a1] r :=
  mI.of (by decide) rfl rfl (Nat.le_of_ble_eq_true rfl) (fun g X hR => t_X4_formOf X  hR N a1  hf)
abbrev rm_X4_namesUnder : Room := { frames := 2, cells := 0, slots := 0, locals := 44 }
theorem hd_X4_namesUnder : kHd yX4_namesUnder 2 := by decide +kernel
set_option maxHeartbeats 4000000 in
set_option maxRecDepth 100000 in
theorem t_X4_namesUnder {g : kG} {cI cS : ClassId} {ad : Nat → Nat} {C : kS} (X : Kx g cI cS cX4_namesUnder RX4 wsX4_namesUnder 3 rm_X4_namesUnder) {r : Int32} (hR : kRI g (WC cI cS ad) 3 cX4_namesUnder .int C r) (N : Nat) (k1 : Nat) (a2 : Int32) (hk1 : kd k1 = 0) (hf : f_X4_namesUnder N C k1 a2 = some r) : J g (WC cI cS ad) 3 C 0 [some (.ref (ad 119)), some (.ref (ad k1)), some (.int a2)] [] := by
  unfold f_X4_namesUnder at hf
  refine j_aload_n (pc := 0) X dX4_namesUnder_0 rfl ?_
  refine j_aload_n (pc := 1) X dX4_namesUnder_1 rfl ?_
  refine j_aload_n (pc := 2) X dX4_namesUnder_2 rfl ?_
  refine j_iload_n (pc := 3) X dX4_namesUnder_3 rfl ?_
  obtain ⟨r2, h1, hf⟩ := kB hf
  refine j_callI (pc := 4) X (c_X4_formOf N C a2 h1) gX4_namesUnder_X4_formOf rfl ⟨rfl, rfl⟩ rfl hd_X4_formOf ⟨(Nat.le_of_ble_eq_true rfl), (Nat.le_of_ble_eq_true rfl)⟩ (wc4 kd_119) rfl rfl rfl (Nat.le_of_ble_eq_true rfl) rfl dX4_namesUnder_4 ?_
  obtain ⟨r4, h3, hf⟩ := kB hf
  refine j_callI (pc := 7) X (c_X0_widthOf N C k1 hk1 r2 h3) gX4_namesUnder_X0_widthOf rfl ⟨rfl, rfl⟩ rfl hd_X0_widthOf ⟨(Nat.le_of_ble_eq_true rfl), (Nat.le_of_ble_eq_true rfl)⟩ (wc0 hk1) rfl rfl rfl (Nat.le_of_ble_eq_true rfl) rfl dX4_namesUnder_7 ?_
  obtain ⟨r6, h5, hf⟩ := kB hf
  refine j_callI (pc := 10) X (c_X0_namesUnder N C k1 hk1 r4 h5) gX4_namesUnder_X0_namesUnder rfl ⟨rfl, rfl⟩ rfl hd_X0_namesUnder ⟨(Nat.le_of_ble_eq_true rfl), (Nat.le_of_ble_eq_true rfl)⟩ (wc0 hk1) rfl rfl rfl (Nat.le_of_ble_eq_true rfl) rfl dX4_namesUnder_10 ?_
  obtain ⟨r8, h7, hf⟩ := kB hf
  refine j_callP (pc := 13) X (c_J6_bitCount_0f7a4 N r6 h7) gX4_namesUnder_J6_bitCount_0f7a4 rfl ⟨rfl, rfl⟩ hd_J6_bitCount_0f7a4 ⟨(Nat.le_of_ble_eq_true rfl), (Nat.le_of_ble_eq_true rfl)⟩ rfl (Nat.le_of_ble_eq_true rfl) rfl dX4_namesUnder_13 ?_
  exact j_retI hR dX4_namesUnder_16 hf
theorem c_X4_namesUnder {l : Launch} {D : va_G} {cI cS : ClassId} {ad : Nat → Nat} (N : Nat) (C : kS) (k1 : Nat) (hk1 : kd k1 = 0) (a2 : Int32) {r : Int32} (hf : f_X4_namesUnder N C k1 a2 = some r) : mI l yX4_namesUnder wsX4_namesUnder rm_X4_namesUnder D cI cS (WC cI cS ad) C [.ref (ad 119), .ref (ad k1), .int a2] r :=
  mI.of (by decide) rfl rfl (Nat.le_of_ble_eq_true rfl) (fun g X hR => t_X4_namesUnder X  hR N k1 a2 hk1 hf)
