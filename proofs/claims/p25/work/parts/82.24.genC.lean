abbrev rm_X4_hideWords : Room := { frames := 3, cells := 0, slots := 0, locals := 70 }
theorem lk_X4_hideWords_0 : Cond.fieldLink RX4 9 "BlackBars$Sheet" "state" "LBlackBars$State;" ∈ wsX4_hideWords := List.mem_of_getElem? (i := 1) rfl
theorem iw_X4_hideWords_X4 : ∀ w ∈ wsX40, w ∈ wsX4_hideWords := fun _ h => List.mem_cons_of_mem _ (List.mem_append_left _ (List.mem_append_left _ (List.mem_append_left _ (List.mem_append_left _ (List.mem_append_right _ h)))))
theorem iw_X4_hideWords_X5 : ∀ w ∈ wsX50, w ∈ wsX4_hideWords := fun _ h => List.mem_cons_of_mem _ (List.mem_append_left _ (List.mem_append_left _ (List.mem_append_left _ (List.mem_append_right _ h))))
theorem lk_X4_hideWords_2 : Cond.fieldLink RX4 24 "BlackBars$Sheet" "formsOfWords" "LBlackBars$Row;" ∈ wsX4_hideWords := List.mem_of_getElem? (i := 3) rfl
theorem lk_X4_hideWords_3 : Cond.fieldLink RX4 28 "BlackBars$Sheet" "ownWidths" "LBlackBars$Row;" ∈ wsX4_hideWords := List.mem_of_getElem? (i := 4) rfl
theorem lk_X4_hideWords_1 : Cond.fieldLink RX4 15 "BlackBars$Sheet" "forms" "LBlackBars$Forms;" ∈ wsX4_hideWords := List.mem_of_getElem? (i := 2) rfl
theorem hd_X4_hideWords : kHd yX4_hideWords 0 := by decide +kernel
set_option maxHeartbeats 4000000 in
set_option maxRecDepth 100000 in
theorem lt_X4_hideWords_20 {g : kG} {cI cS : ClassId} {ad : Nat → Nat} (X : Kx g cI cS cX4_hideWords RX4 wsX4_hideWords 4 rm_X4_hideWords) {Cr : kS} (hI : kInj 132 ad) (Y : Kw g (WC cI cS ad) (kAd 132 ad)) (hR : kRV g (WC cI cS ad) 4 cX4_hideWords Cr) (N : Nat) (x3 : Int32) (C4 : kS)  (k71_8 : Int32 → Option (kS)) (hk71_8 : ∀ (x8 : Int32), k71_8 x8 = some Cr → J g (WC cI cS ad) 4 C4 71 [some (.ref (ad 119)), some (.int x3), some (.int x8), none] []) : ∀ (n : Nat) (x16 : Int32) (x17 : Int32), lp_X4_hideWords_20 N x3 C4 k71_8 n x16 x17 = some Cr → J g (WC cI cS ad) 4 C4 20 [some (.ref (ad 119)), some (.int x3), some (.int x16), some (.int x17)] [] := by
  intro n
  induction n with
  | zero =>
    intro x16 x17 hf
    rw [lp_X4_hideWords_20] at hf
    cases hf
  | succ n ih =>
    intro x16 x17 hf
    rw [lp_X4_hideWords_20] at hf
    refine j_iload_n (pc := 20) X dX4_hideWords_20 rfl ?_
    refine j_aload_n (pc := 21) X dX4_hideWords_21 rfl ?_
    refine j_get (pc := 22) X iw_X4_hideWords_X4 (wc4 kd_119) rfl 1 (Nat.le_of_ble_eq_true rfl) lk_X4_hideWords_1 (v := .ref (ad 106)) rfl dX4_hideWords_22 ?_
    obtain ⟨r19, h18, hf⟩ := kB hf
    refine j_callI (pc := 25) X (c_X1_size N C4  h18) gX4_hideWords_X1_size rfl ⟨rfl, rfl⟩ rfl hd_X1_size ⟨(Nat.le_of_ble_eq_true rfl), (Nat.le_of_ble_eq_true rfl)⟩ (wc1 kd_106) rfl rfl rfl (Nat.le_of_ble_eq_true rfl) rfl dX4_hideWords_25 ?_
    refine j_icmp_ge (tgt := 71) (pc := 28) X dX4_hideWords_28 rfl (fun c20 => ?_) (fun c20 => ?_)
    · have hf := kT c20 hf
      refine j_weak (lv' := [some (.ref (ad 119)), some (.int x3), some (.int x16), none]) (And.intro rfl (And.intro rfl (And.intro rfl trivial))) ?_
      exact hk71_8 _ hf
    · have hf := kF c20 hf
      refine j_iload_n (pc := 31) X dX4_hideWords_31 rfl ?_
      refine j_iconst (pc := 32) X dX4_hideWords_32 kc_m1 ?_
      refine j_icmp_ne (tgt := 71) (pc := 33) X dX4_hideWords_33 rfl (fun c21 => ?_) (fun c21 => ?_)
      · have hf := kF c21 hf
        refine j_weak (lv' := [some (.ref (ad 119)), some (.int x3), some (.int x16), none]) (And.intro rfl (And.intro rfl (And.intro rfl trivial))) ?_
        exact hk71_8 _ hf
      · have hf := kT c21 hf
        refine j_aload_n (pc := 36) X dX4_hideWords_36 rfl ?_
        refine j_get (pc := 37) X iw_X4_hideWords_X4 (wc4 kd_119) rfl 0 (Nat.le_of_ble_eq_true rfl) lk_X4_hideWords_0 (v := .ref (ad 4)) rfl dX4_hideWords_37 ?_
        refine j_iload_n (pc := 40) X dX4_hideWords_40 rfl ?_
        refine j_aload_n (pc := 41) X dX4_hideWords_41 rfl ?_
        refine j_get (pc := 42) X iw_X4_hideWords_X4 (wc4 kd_119) rfl 1 (Nat.le_of_ble_eq_true rfl) lk_X4_hideWords_1 (v := .ref (ad 106)) rfl dX4_hideWords_42 ?_
        refine j_iload_n (pc := 45) X dX4_hideWords_45 rfl ?_
        obtain ⟨r23, h22, hf⟩ := kB hf
        refine j_callI (pc := 46) X (c_X1_nameOf N C4 x17 h22) gX4_hideWords_X1_nameOf rfl ⟨rfl, rfl⟩ rfl hd_X1_nameOf ⟨(Nat.le_of_ble_eq_true rfl), (Nat.le_of_ble_eq_true rfl)⟩ (wc1 kd_106) rfl rfl rfl (Nat.le_of_ble_eq_true rfl) rfl dX4_hideWords_46 ?_
        refine j_aload_n (pc := 49) X dX4_hideWords_49 rfl ?_
        refine j_get (pc := 50) X iw_X4_hideWords_X4 (wc4 kd_119) rfl 1 (Nat.le_of_ble_eq_true rfl) lk_X4_hideWords_1 (v := .ref (ad 106)) rfl dX4_hideWords_50 ?_
        refine j_iload_n (pc := 53) X dX4_hideWords_53 rfl ?_
        obtain ⟨r25, h24, hf⟩ := kB hf
        refine j_callI (pc := 54) X (c_X1_endingOf N C4 x17 h24) gX4_hideWords_X1_endingOf rfl ⟨rfl, rfl⟩ rfl hd_X1_endingOf ⟨(Nat.le_of_ble_eq_true rfl), (Nat.le_of_ble_eq_true rfl)⟩ (wc1 kd_106) rfl rfl rfl (Nat.le_of_ble_eq_true rfl) rfl dX4_hideWords_54 ?_
        obtain ⟨r27, h26, hf⟩ := kB hf
        refine j_callI (pc := 57) X (c_X5_isForm N C4 x3 r23 r25 h26) gX4_hideWords_X5_isForm rfl ⟨rfl, rfl⟩ rfl hd_X5_isForm ⟨(Nat.le_of_ble_eq_true rfl), (Nat.le_of_ble_eq_true rfl)⟩ (wc5 kd_4) rfl rfl rfl (Nat.le_of_ble_eq_true rfl) rfl dX4_hideWords_57 ?_
        obtain ⟨j65_28, ej65_28, hf⟩ := jn_s hf
        have hj65_28 : ∀ (x28 : Int32), j65_28 x28 = some Cr → J g (WC cI cS ad) 4 C4 65 [some (.ref (ad 119)), some (.int x3), some (.int x28), some (.int x17)] [] := by
          intro x28 hf
          have hf := jE1 ej65_28 hf
          refine j_iinc (pc := 65) X dX4_hideWords_65 rfl (v := x17 + 1) (by rw [kc_1]) (Nat.le_of_ble_eq_true rfl) (lv' := [some (.ref (ad 119)), some (.int x3), some (.int x28), some (.int (x17 + 1))]) rfl ?_
          refine j_goto (tgt := 20) (pc := 68) X dX4_hideWords_68 rfl ?_
          exact ih _ _ hf
        refine j_if_eq (tgt := 65) (pc := 60) X dX4_hideWords_60 rfl (fun c30 => ?_) (fun c30 => ?_)
        · have hf := kT c30 hf
          exact hj65_28 _ hf
        · have hf := kF c30 hf
          refine j_iload_n (pc := 63) X dX4_hideWords_63 rfl ?_
          refine j_istore_n (pc := 64) X dX4_hideWords_64 (Nat.le_of_ble_eq_true rfl) (lv' := [some (.ref (ad 119)), some (.int x3), some (.int x17), some (.int x17)]) rfl ?_
          exact hj65_28 _ hf
set_option maxHeartbeats 4000000 in
set_option maxRecDepth 100000 in
theorem lt_X4_hideWords_2 {g : kG} {cI cS : ClassId} {ad : Nat → Nat} (X : Kx g cI cS cX4_hideWords RX4 wsX4_hideWords 4 rm_X4_hideWords) {Cr : kS} (hI : kInj 132 ad) (Y : Kw g (WC cI cS ad) (kAd 132 ad)) (hR : kRV g (WC cI cS ad) 4 cX4_hideWords Cr) (N : Nat)   (k112_1 : kS → Option (kS)) (hk112_1 : ∀ (C1 : kS), k112_1 C1 = some Cr → J g (WC cI cS ad) 4 C1 112 [some (.ref (ad 119)), none, none, none] []) : ∀ (n : Nat) (x3 : Int32) (C4 : kS), lp_X4_hideWords_2 N k112_1 n x3 C4 = some Cr → J g (WC cI cS ad) 4 C4 2 [some (.ref (ad 119)), some (.int x3), none, none] [] := by
  intro n
  induction n with
  | zero =>
    intro x3 C4 hf
    rw [lp_X4_hideWords_2] at hf
    cases hf
  | succ n ih =>
    intro x3 C4 hf
    rw [lp_X4_hideWords_2] at hf
    refine j_iload_n (pc := 2) X dX4_hideWords_2 rfl ?_
    refine j_aload_n (pc := 3) X dX4_hideWords_3 rfl ?_
    refine j_get (pc := 4) X iw_X4_hideWords_X4 (wc4 kd_119) rfl 0 (Nat.le_of_ble_eq_true rfl) lk_X4_hideWords_0 (v := .ref (ad 4)) rfl dX4_hideWords_4 ?_
    refine j_getN (pc := 7) X iw_X4_hideWords_X5 (wc5 kd_4) rfl 0 (Nat.le_of_ble_eq_true rfl) (List.mem_of_getElem? (i := 7) rfl) (v := .ref (ad 5)) rfl dX4_hideWords_7 ?_
    obtain ⟨r6, h5, hf⟩ := kB hf
    refine j_callI (pc := 10) X (c_X7_size N C4 5 (kd5_1 kd_4 : kd 5 = 7) h5) gX4_hideWords_X7_size rfl ⟨rfl, rfl⟩ rfl hd_X7_size ⟨(Nat.le_of_ble_eq_true rfl), (Nat.le_of_ble_eq_true rfl)⟩ (wc7 (kd5_1 kd_4 : kd 5 = 7)) rfl rfl rfl (Nat.le_of_ble_eq_true rfl) rfl dX4_hideWords_10 ?_
    refine j_icmp_ge (tgt := 112) (pc := 13) X dX4_hideWords_13 rfl (fun c7 => ?_) (fun c7 => ?_)
    · have hf := kT c7 hf
      refine j_weak (lv' := [some (.ref (ad 119)), none, none, none]) (And.intro rfl trivial) ?_
      exact hk112_1 _ hf
    · have hf := kF c7 hf
      refine j_iconst (pc := 16) X dX4_hideWords_16 kc_m1 ?_
      refine j_istore_n (pc := 17) X dX4_hideWords_17 (Nat.le_of_ble_eq_true rfl) (lv' := [some (.ref (ad 119)), some (.int x3), some (.int (-1)), none]) rfl ?_
      refine j_iconst (pc := 18) X dX4_hideWords_18 kc_0 ?_
      refine j_istore_n (pc := 19) X dX4_hideWords_19 (Nat.le_of_ble_eq_true rfl) (lv' := [some (.ref (ad 119)), some (.int x3), some (.int (-1)), some (.int 0)]) rfl ?_
      obtain ⟨k71_8, ek71_8, hf⟩ := jn_s hf
      have hk71_8 : ∀ (x8 : Int32), k71_8 x8 = some Cr → J g (WC cI cS ad) 4 C4 71 [some (.ref (ad 119)), some (.int x3), some (.int x8), none] [] := by
        intro x8 hf
        have hf := jE1 ek71_8 hf
        refine j_aload_n (pc := 71) X dX4_hideWords_71 rfl ?_
        refine j_get (pc := 72) X iw_X4_hideWords_X4 (wc4 kd_119) rfl 2 (Nat.le_of_ble_eq_true rfl) lk_X4_hideWords_2 (v := .ref (ad 120)) rfl dX4_hideWords_72 ?_
        refine j_iload_n (pc := 75) X dX4_hideWords_75 rfl ?_
        refine j_iload_n (pc := 76) X dX4_hideWords_76 rfl ?_
        obtain ⟨C11, h10, hf⟩ := kB hf
        refine j_callV (pc := 77) X Y (c_X3_put hI N C4 120 kd_120 x3 x8 h10) gX4_hideWords_X3_put rfl ⟨rfl, rfl⟩ rfl hd_X3_put ⟨(Nat.le_of_ble_eq_true rfl), (Nat.le_of_ble_eq_true rfl)⟩ (wc3 kd_120) rfl rfl rfl (Nat.le_of_ble_eq_true rfl) rfl dX4_hideWords_77 ?_
        refine j_aload_n (pc := 80) X dX4_hideWords_80 rfl ?_
        refine j_get (pc := 81) X iw_X4_hideWords_X4 (wc4 kd_119) rfl 3 (Nat.le_of_ble_eq_true rfl) lk_X4_hideWords_3 (v := .ref (ad 122)) rfl dX4_hideWords_81 ?_
        refine j_iload_n (pc := 84) X dX4_hideWords_84 rfl ?_
        refine j_aload_n (pc := 85) X dX4_hideWords_85 rfl ?_
        refine j_get (pc := 86) X iw_X4_hideWords_X4 (wc4 kd_119) rfl 0 (Nat.le_of_ble_eq_true rfl) lk_X4_hideWords_0 (v := .ref (ad 4)) rfl dX4_hideWords_86 ?_
        refine j_getN (pc := 89) X iw_X4_hideWords_X5 (wc5 kd_4) rfl 0 (Nat.le_of_ble_eq_true rfl) (List.mem_of_getElem? (i := 7) rfl) (v := .ref (ad 5)) rfl dX4_hideWords_89 ?_
        refine j_iload_n (pc := 92) X dX4_hideWords_92 rfl ?_
        refine j_aload_n (pc := 93) X dX4_hideWords_93 rfl ?_
        refine j_get (pc := 94) X iw_X4_hideWords_X4 (wc4 kd_119) rfl 0 (Nat.le_of_ble_eq_true rfl) lk_X4_hideWords_0 (v := .ref (ad 4)) rfl dX4_hideWords_94 ?_
        refine j_getN (pc := 97) X iw_X4_hideWords_X5 (wc5 kd_4) rfl 3 (Nat.le_of_ble_eq_true rfl) (List.mem_of_getElem? (i := 8) rfl) (v := .ref (ad 20)) rfl dX4_hideWords_97 ?_
        obtain ⟨r13, h12, hf⟩ := kB hf
        refine j_callI (pc := 100) X (c_X7_widthOf N C11 5 (kd5_1 kd_4 : kd 5 = 7) x3 20 (kd5_16 kd_4 : kd 20 = 3) h12) gX4_hideWords_X7_widthOf rfl ⟨rfl, rfl⟩ rfl hd_X7_widthOf ⟨(Nat.le_of_ble_eq_true rfl), (Nat.le_of_ble_eq_true rfl)⟩ (wc7 (kd5_1 kd_4 : kd 5 = 7)) rfl rfl rfl (Nat.le_of_ble_eq_true rfl) rfl dX4_hideWords_100 ?_
        obtain ⟨C15, h14, hf⟩ := kB hf
        refine j_callV (pc := 103) X Y (c_X3_put hI N C11 122 kd_122 x3 r13 h14) gX4_hideWords_X3_put rfl ⟨rfl, rfl⟩ rfl hd_X3_put ⟨(Nat.le_of_ble_eq_true rfl), (Nat.le_of_ble_eq_true rfl)⟩ (wc3 kd_122) rfl rfl rfl (Nat.le_of_ble_eq_true rfl) rfl dX4_hideWords_103 ?_
        refine j_iinc (pc := 106) X dX4_hideWords_106 rfl (v := x3 + 1) (by rw [kc_1]) (Nat.le_of_ble_eq_true rfl) (lv' := [some (.ref (ad 119)), some (.int (x3 + 1)), some (.int x8), none]) rfl ?_
        refine j_goto (tgt := 2) (pc := 109) X dX4_hideWords_109 rfl ?_
        refine j_weak (lv' := [some (.ref (ad 119)), some (.int (x3 + 1)), none, none]) (And.intro rfl (And.intro rfl trivial)) ?_
        exact ih _ _ hf
      exact lt_X4_hideWords_20 X hI Y hR N x3 C4   k71_8 hk71_8 N _ _ hf
set_option maxHeartbeats 4000000 in
set_option maxRecDepth 100000 in
theorem t_X4_hideWords {g : kG} {cI cS : ClassId} {ad : Nat → Nat} (X : Kx g cI cS cX4_hideWords RX4 wsX4_hideWords 4 rm_X4_hideWords) {Cr : kS} (hI : kInj 132 ad) (Y : Kw g (WC cI cS ad) (kAd 132 ad)) (hR : kRV g (WC cI cS ad) 4 cX4_hideWords Cr) (N : Nat) (C : kS)   (hf : f_X4_hideWords N C = some Cr) : J g (WC cI cS ad) 4 C 0 [some (.ref (ad 119)), none, none, none] [] := by
  unfold f_X4_hideWords at hf
  refine j_iconst (pc := 0) X dX4_hideWords_0 kc_0 ?_
  refine j_istore_n (pc := 1) X dX4_hideWords_1 (Nat.le_of_ble_eq_true rfl) (lv' := [some (.ref (ad 119)), some (.int 0), none, none]) rfl ?_
  obtain ⟨k112_1, ek112_1, hf⟩ := jn_s hf
  have hk112_1 : ∀ (C1 : kS), k112_1 C1 = some Cr → J g (WC cI cS ad) 4 C1 112 [some (.ref (ad 119)), none, none, none] [] := by
    intro C1 hf
    have hf := jE1 ek112_1 hf
    exact j_retV hR dX4_hideWords_112 hf
  exact lt_X4_hideWords_2 X hI Y hR N   k112_1 hk112_1 N _ _ hf
theorem c_X4_hideWords {l : Launch} {D : va_G} {cI cS : ClassId} {ad : Nat → Nat} (hI : kInj 132 ad) (N : Nat) (C : kS)  {Cr : kS} (hf : f_X4_hideWords N C = some Cr) : mV l yX4_hideWords wsX4_hideWords rm_X4_hideWords D cI cS (WC cI cS ad) (kAd 132 ad) C [.ref (ad 119)] Cr :=
  mV.of (by decide) rfl rfl (Nat.le_of_ble_eq_true rfl) (WC_D hI) (fun g X Y hR => t_X4_hideWords X hI Y hR N C   hf)
abbrev rm_X4_lineCount : Room := { frames := 0, cells := 0, slots := 0, locals := 0 }
theorem lk_X4_lineCount_0 : Cond.fieldLink RX4 43 "BlackBars$Sheet" "lines" "I" ∈ wsX4_lineCount := List.mem_of_getElem? (i := 1) rfl
theorem iw_X4_lineCount_X4 : ∀ w ∈ wsX40, w ∈ wsX4_lineCount := fun _ h => List.mem_cons_of_mem _ (List.mem_append_right _ h)
theorem hd_X4_lineCount : kHd yX4_lineCount 0 := by decide +kernel
set_option maxHeartbeats 4000000 in
set_option maxRecDepth 100000 in
theorem t_X4_lineCount {g : kG} {cI cS : ClassId} {ad : Nat → Nat} {C : kS} (X : Kx g cI cS cX4_lineCount RX4 wsX4_lineCount 1 rm_X4_lineCount) {r : Int32} (hR : kRI g (WC cI cS ad) 1 cX4_lineCount .int C r) (N : Nat)   (hf : f_X4_lineCount N C = some r) : J g (WC cI cS ad) 1 C 0 [some (.ref (ad 119))] [] := by
  unfold f_X4_lineCount at hf
  refine j_aload_n (pc := 0) X dX4_lineCount_0 rfl ?_
  refine j_get (pc := 1) X iw_X4_lineCount_X4 (wc4 kd_119) rfl 8 (Nat.le_of_ble_eq_true rfl) lk_X4_lineCount_0 (v := .int (C 119 8)) rfl dX4_lineCount_1 ?_
  exact j_retI hR dX4_lineCount_4 hf
theorem c_X4_lineCount {l : Launch} {D : va_G} {cI cS : ClassId} {ad : Nat → Nat} (N : Nat) (C : kS)  {r : Int32} (hf : f_X4_lineCount N C = some r) : mI l yX4_lineCount wsX4_lineCount rm_X4_lineCount D cI cS (WC cI cS ad) C [.ref (ad 119)] r :=
  mI.of (by decide) rfl rfl (Nat.le_of_ble_eq_true rfl) (fun g X hR => t_X4_lineCount X  hR N   hf)
abbrev rm_X4_lineOf : Room := { frames := 1, cells := 0, slots := 0, locals := 21 }
theorem lk_X4_lineOf_0 : Cond.fieldLink RX4 34 "BlackBars$Sheet" "linesOfWords" "LBlackBars$Row;" ∈ wsX4_lineOf := List.mem_of_getElem? (i := 1) rfl
theorem iw_X4_lineOf_X4 : ∀ w ∈ wsX40, w ∈ wsX4_lineOf := fun _ h => List.mem_cons_of_mem _ (List.mem_append_left _ (List.mem_append_right _ h))
theorem hd_X4_lineOf : kHd yX4_lineOf 1 := by decide +kernel
set_option maxHeartbeats 4000000 in
set_option maxRecDepth 100000 in
theorem t_X4_lineOf {g : kG} {cI cS : ClassId} {ad : Nat → Nat} {C : kS} (X : Kx g cI cS cX4_lineOf RX4 wsX4_lineOf 2 rm_X4_lineOf) {r : Int32} (hR : kRI g (WC cI cS ad) 2 cX4_lineOf .int C r) (N : Nat) (a1 : Int32)  (hf : f_X4_lineOf N C a1 = some r) : J g (WC cI cS ad) 2 C 0 [some (.ref (ad 119)), some (.int a1)] [] := by
  unfold f_X4_lineOf at hf
  refine j_aload_n (pc := 0) X dX4_lineOf_0 rfl ?_
  refine j_get (pc := 1) X iw_X4_lineOf_X4 (wc4 kd_119) rfl 5 (Nat.le_of_ble_eq_true rfl) lk_X4_lineOf_0 (v := .ref (ad 126)) rfl dX4_lineOf_1 ?_
  refine j_iload_n (pc := 4) X dX4_lineOf_4 rfl ?_
  obtain ⟨r2, h1, hf⟩ := kB hf
  refine j_callI (pc := 5) X (c_X3_at N C 126 kd_126 a1 h1) gX4_lineOf_X3_at rfl ⟨rfl, rfl⟩ rfl hd_X3_at ⟨(Nat.le_of_ble_eq_true rfl), (Nat.le_of_ble_eq_true rfl)⟩ (wc3 kd_126) rfl rfl rfl (Nat.le_of_ble_eq_true rfl) rfl dX4_lineOf_5 ?_
  exact j_retI hR dX4_lineOf_8 hf
theorem c_X4_lineOf {l : Launch} {D : va_G} {cI cS : ClassId} {ad : Nat → Nat} (N : Nat) (C : kS) (a1 : Int32) {r : Int32} (hf : f_X4_lineOf N C a1 = some r) : mI l yX4_lineOf wsX4_lineOf rm_X4_lineOf D cI cS (WC cI cS ad) C [.ref (ad 119), .int a1] r :=
  mI.of (by decide) rfl rfl (Nat.le_of_ble_eq_true rfl) (fun g X hR => t_X4_lineOf X  hR N a1  hf)
abbrev rm_X4_placeOf : Room := { frames := 1, cells := 0, slots := 0, locals := 21 }
theorem lk_X4_placeOf_0 : Cond.fieldLink RX4 37 "BlackBars$Sheet" "places" "LBlackBars$Row;" ∈ wsX4_placeOf := List.mem_of_getElem? (i := 1) rfl
theorem iw_X4_placeOf_X4 : ∀ w ∈ wsX40, w ∈ wsX4_placeOf := fun _ h => List.mem_cons_of_mem _ (List.mem_append_left _ (List.mem_append_right _ h))
theorem hd_X4_placeOf : kHd yX4_placeOf 1 := by decide +kernel
set_option maxHeartbeats 4000000 in
set_option maxRecDepth 100000 in
theorem t_X4_placeOf {g : kG} {cI cS : ClassId} {ad : Nat → Nat} {C : kS} (X : Kx g cI cS cX4_placeOf RX4 wsX4_placeOf 2 rm_X4_placeOf) {r : Int32} (hR : kRI g (WC cI cS ad) 2 cX4_placeOf .int C r) (N : Nat) (a1 : Int32)  (hf : f_X4_placeOf N C a1 = some r) : J g (WC cI cS ad) 2 C 0 [some (.ref (ad 119)), some (.int a1)] [] := by
  unfold f_X4_placeOf at hf
  refine j_aload_n (pc := 0) X dX4_placeOf_0 rfl ?_
  refine j_get (pc := 1) X iw_X4_placeOf_X4 (wc4 kd_119) rfl 6 (Nat.le_of_ble_eq_true rfl) lk_X4_placeOf_0 (v := .ref (ad 128)) rfl dX4_placeOf_1 ?_
  refine j_iload_n (pc := 4) X dX4_placeOf_4 rfl ?_
  obtain ⟨r2, h1, hf⟩ := kB hf
  refine j_callI (pc := 5) X (c_X3_at N C 128 kd_128 a1 h1) gX4_placeOf_X3_at rfl ⟨rfl, rfl⟩ rfl hd_X3_at ⟨(Nat.le_of_ble_eq_true rfl), (Nat.le_of_ble_eq_true rfl)⟩ (wc3 kd_128) rfl rfl rfl (Nat.le_of_ble_eq_true rfl) rfl dX4_placeOf_5 ?_
  exact j_retI hR dX4_placeOf_8 hf
theorem c_X4_placeOf {l : Launch} {D : va_G} {cI cS : ClassId} {ad : Nat → Nat} (N : Nat) (C : kS) (a1 : Int32) {r : Int32} (hf : f_X4_placeOf N C a1 = some r) : mI l yX4_placeOf wsX4_placeOf rm_X4_placeOf D cI cS (WC cI cS ad) C [.ref (ad 119), .int a1] r :=
  mI.of (by decide) rfl rfl (Nat.le_of_ble_eq_true rfl) (fun g X hR => t_X4_placeOf X  hR N a1  hf)
abbrev rm_X4_sumOfGaps : Room := { frames := 2, cells := 0, slots := 0, locals := 42 }
theorem lk_X4_sumOfGaps_0 : Cond.fieldLink RX4 9 "BlackBars$Sheet" "state" "LBlackBars$State;" ∈ wsX4_sumOfGaps := List.mem_of_getElem? (i := 1) rfl
theorem iw_X4_sumOfGaps_X4 : ∀ w ∈ wsX40, w ∈ wsX4_sumOfGaps := fun _ h => List.mem_cons_of_mem _ (List.mem_append_left _ (List.mem_append_left _ (List.mem_append_left _ (List.mem_append_left _ (List.mem_append_left _ (List.mem_append_right _ h))))))
theorem iw_X4_sumOfGaps_X5 : ∀ w ∈ wsX50, w ∈ wsX4_sumOfGaps := fun _ h => List.mem_cons_of_mem _ (List.mem_append_left _ (List.mem_append_left _ (List.mem_append_left _ (List.mem_append_left _ (List.mem_append_right _ h)))))
theorem lk_X4_sumOfGaps_1 : Cond.fieldLink RX4 15 "BlackBars$Sheet" "forms" "LBlackBars$Forms;" ∈ wsX4_sumOfGaps := List.mem_of_getElem? (i := 2) rfl
theorem hd_X4_sumOfGaps : kHd yX4_sumOfGaps 1 := by decide +kernel
set_option maxHeartbeats 4000000 in
set_option maxRecDepth 100000 in
theorem lt_X4_sumOfGaps_4 {g : kG} {cI cS : ClassId} {ad : Nat → Nat} {C : kS} (X : Kx g cI cS cX4_sumOfGaps RX4 wsX4_sumOfGaps 4 rm_X4_sumOfGaps) {r : Int32} (hR : kRI g (WC cI cS ad) 4 cX4_sumOfGaps .int C r) (N : Nat) (k1 : Nat) (hk1 : kd k1 = 0) (k57_1 : Int32 → Option (Int32)) (hk57_1 : ∀ (x1 : Int32), k57_1 x1 = some r → J g (WC cI cS ad) 4 C 57 [some (.ref (ad 119)), some (.ref (ad k1)), some (.int x1), none] []) : ∀ (n : Nat) (x3 : Int32) (x4 : Int32), lp_X4_sumOfGaps_4 N C k1 k57_1 n x3 x4 = some r → J g (WC cI cS ad) 4 C 4 [some (.ref (ad 119)), some (.ref (ad k1)), some (.int x3), some (.int x4)] [] := by
  intro n
  induction n with
  | zero =>
    intro x3 x4 hf
    rw [lp_X4_sumOfGaps_4] at hf
    cases hf
  | succ n ih =>
    intro x3 x4 hf
    rw [lp_X4_sumOfGaps_4] at hf
    refine j_iload_n (pc := 4) X dX4_sumOfGaps_4 rfl ?_
    refine j_aload_n (pc := 5) X dX4_sumOfGaps_5 rfl ?_
    refine j_get (pc := 6) X iw_X4_sumOfGaps_X4 (wc4 kd_119) rfl 0 (Nat.le_of_ble_eq_true rfl) lk_X4_sumOfGaps_0 (v := .ref (ad 4)) rfl dX4_sumOfGaps_6 ?_
    refine j_getN (pc := 9) X iw_X4_sumOfGaps_X5 (wc5 kd_4) rfl 0 (Nat.le_of_ble_eq_true rfl) (List.mem_of_getElem? (i := 7) rfl) (v := .ref (ad 5)) rfl dX4_sumOfGaps_9 ?_
    obtain ⟨r6, h5, hf⟩ := kB hf
    refine j_callI (pc := 12) X (c_X7_size N C 5 (kd5_1 kd_4 : kd 5 = 7) h5) gX4_sumOfGaps_X7_size rfl ⟨rfl, rfl⟩ rfl hd_X7_size ⟨(Nat.le_of_ble_eq_true rfl), (Nat.le_of_ble_eq_true rfl)⟩ (wc7 (kd5_1 kd_4 : kd 5 = 7)) rfl rfl rfl (Nat.le_of_ble_eq_true rfl) rfl dX4_sumOfGaps_12 ?_
    refine j_icmp_ge (tgt := 57) (pc := 15) X dX4_sumOfGaps_15 rfl (fun c7 => ?_) (fun c7 => ?_)
    · have hf := kT c7 hf
      refine j_weak (lv' := [some (.ref (ad 119)), some (.ref (ad k1)), some (.int x3), none]) (And.intro rfl (And.intro rfl (And.intro rfl trivial))) ?_
      exact hk57_1 _ hf
    · have hf := kF c7 hf
      refine j_aload_n (pc := 18) X dX4_sumOfGaps_18 rfl ?_
      refine j_iload_n (pc := 19) X dX4_sumOfGaps_19 rfl ?_
      obtain ⟨r9, h8, hf⟩ := kB hf
      refine j_callI (pc := 20) X (c_X4_isHidden N C x4 h8) gX4_sumOfGaps_X4_isHidden rfl ⟨rfl, rfl⟩ rfl hd_X4_isHidden ⟨(Nat.le_of_ble_eq_true rfl), (Nat.le_of_ble_eq_true rfl)⟩ (wc4 kd_119) rfl rfl rfl (Nat.le_of_ble_eq_true rfl) rfl dX4_sumOfGaps_20 ?_
      obtain ⟨j51_10, ej51_10, hf⟩ := jn_s hf
      have hj51_10 : ∀ (x10 : Int32), j51_10 x10 = some r → J g (WC cI cS ad) 4 C 51 [some (.ref (ad 119)), some (.ref (ad k1)), some (.int x10), some (.int x4)] [] := by
        intro x10 hf
        have hf := jE1 ej51_10 hf
        refine j_iinc (pc := 51) X dX4_sumOfGaps_51 rfl (v := x4 + 1) (by rw [kc_1]) (Nat.le_of_ble_eq_true rfl) (lv' := [some (.ref (ad 119)), some (.ref (ad k1)), some (.int x10), some (.int (x4 + 1))]) rfl ?_
        refine j_goto (tgt := 4) (pc := 54) X dX4_sumOfGaps_54 rfl ?_
        exact ih _ _ hf
      refine j_if_eq (tgt := 51) (pc := 23) X dX4_sumOfGaps_23 rfl (fun c12 => ?_) (fun c12 => ?_)
      · have hf := kT c12 hf
        exact hj51_10 _ hf
      · have hf := kF c12 hf
        refine j_iload_n (pc := 26) X dX4_sumOfGaps_26 rfl ?_
        refine j_aload_n (pc := 27) X dX4_sumOfGaps_27 rfl ?_
        refine j_aload_n (pc := 28) X dX4_sumOfGaps_28 rfl ?_
        refine j_iload_n (pc := 29) X dX4_sumOfGaps_29 rfl ?_
        obtain ⟨r14, h13, hf⟩ := kB hf
        refine j_callI (pc := 30) X (c_X4_formOf N C x4 h13) gX4_sumOfGaps_X4_formOf rfl ⟨rfl, rfl⟩ rfl hd_X4_formOf ⟨(Nat.le_of_ble_eq_true rfl), (Nat.le_of_ble_eq_true rfl)⟩ (wc4 kd_119) rfl rfl rfl (Nat.le_of_ble_eq_true rfl) rfl dX4_sumOfGaps_30 ?_
        obtain ⟨r16, h15, hf⟩ := kB hf
        refine j_callI (pc := 33) X (c_X0_widthOf N C k1 hk1 r14 h15) gX4_sumOfGaps_X0_widthOf rfl ⟨rfl, rfl⟩ rfl hd_X0_widthOf ⟨(Nat.le_of_ble_eq_true rfl), (Nat.le_of_ble_eq_true rfl)⟩ (wc0 hk1) rfl rfl rfl (Nat.le_of_ble_eq_true rfl) rfl dX4_sumOfGaps_33 ?_
        refine j_aload_n (pc := 36) X dX4_sumOfGaps_36 rfl ?_
        refine j_get (pc := 37) X iw_X4_sumOfGaps_X4 (wc4 kd_119) rfl 1 (Nat.le_of_ble_eq_true rfl) lk_X4_sumOfGaps_1 (v := .ref (ad 106)) rfl dX4_sumOfGaps_37 ?_
        refine j_aload_n (pc := 40) X dX4_sumOfGaps_40 rfl ?_
        refine j_iload_n (pc := 41) X dX4_sumOfGaps_41 rfl ?_
        obtain ⟨r18, h17, hf⟩ := kB hf
        refine j_callI (pc := 42) X (c_X4_formOf N C x4 h17) gX4_sumOfGaps_X4_formOf rfl ⟨rfl, rfl⟩ rfl hd_X4_formOf ⟨(Nat.le_of_ble_eq_true rfl), (Nat.le_of_ble_eq_true rfl)⟩ (wc4 kd_119) rfl rfl rfl (Nat.le_of_ble_eq_true rfl) rfl dX4_sumOfGaps_42 ?_
        obtain ⟨r20, h19, hf⟩ := kB hf
        refine j_callI (pc := 45) X (c_X1_widthOf N C r18 h19) gX4_sumOfGaps_X1_widthOf rfl ⟨rfl, rfl⟩ rfl hd_X1_widthOf ⟨(Nat.le_of_ble_eq_true rfl), (Nat.le_of_ble_eq_true rfl)⟩ (wc1 kd_106) rfl rfl rfl (Nat.le_of_ble_eq_true rfl) rfl dX4_sumOfGaps_45 ?_
        refine j_isub (pc := 48) X dX4_sumOfGaps_48 ?_
        refine j_iadd (pc := 49) X dX4_sumOfGaps_49 ?_
        refine j_istore_n (pc := 50) X dX4_sumOfGaps_50 (Nat.le_of_ble_eq_true rfl) (lv' := [some (.ref (ad 119)), some (.ref (ad k1)), some (.int (x3 + (r16 - r20))), some (.int x4)]) rfl ?_
        exact hj51_10 _ hf
set_option maxHeartbeats 4000000 in
set_option maxRecDepth 100000 in
theorem t_X4_sumOfGaps {g : kG} {cI cS : ClassId} {ad : Nat → Nat} {C : kS} (X : Kx g cI cS cX4_sumOfGaps RX4 wsX4_sumOfGaps 4 rm_X4_sumOfGaps) {r : Int32} (hR : kRI g (WC cI cS ad) 4 cX4_sumOfGaps .int C r) (N : Nat) (k1 : Nat) (hk1 : kd k1 = 0) (hf : f_X4_sumOfGaps N C k1 = some r) : J g (WC cI cS ad) 4 C 0 [some (.ref (ad 119)), some (.ref (ad k1)), none, none] [] := by
  unfold f_X4_sumOfGaps at hf
  refine j_iconst (pc := 0) X dX4_sumOfGaps_0 kc_0 ?_
  refine j_istore_n (pc := 1) X dX4_sumOfGaps_1 (Nat.le_of_ble_eq_true rfl) (lv' := [some (.ref (ad 119)), some (.ref (ad k1)), some (.int 0), none]) rfl ?_
  refine j_iconst (pc := 2) X dX4_sumOfGaps_2 kc_0 ?_
  refine j_istore_n (pc := 3) X dX4_sumOfGaps_3 (Nat.le_of_ble_eq_true rfl) (lv' := [some (.ref (ad 119)), some (.ref (ad k1)), some (.int 0), some (.int 0)]) rfl ?_
  obtain ⟨k57_1, ek57_1, hf⟩ := jn_s hf
  have hk57_1 : ∀ (x1 : Int32), k57_1 x1 = some r → J g (WC cI cS ad) 4 C 57 [some (.ref (ad 119)), some (.ref (ad k1)), some (.int x1), none] [] := by
    intro x1 hf
    have hf := jE1 ek57_1 hf
    refine j_iload_n (pc := 57) X dX4_sumOfGaps_57 rfl ?_
    exact j_retI hR dX4_sumOfGaps_58 hf
  exact lt_X4_sumOfGaps_4 X hR N k1  hk1 k57_1 hk57_1 N _ _ hf
theorem c_X4_sumOfGaps {l : Launch} {D : va_G} {cI cS : ClassId} {ad : Nat → Nat} (N : Nat) (C : kS) (k1 : Nat) (hk1 : kd k1 = 0) {r : Int32} (hf : f_X4_sumOfGaps N C k1 = some r) : mI l yX4_sumOfGaps wsX4_sumOfGaps rm_X4_sumOfGaps D cI cS (WC cI cS ad) C [.ref (ad 119), .ref (ad k1)] r :=
  mI.of (by decide) rfl rfl (Nat.le_of_ble_eq_true rfl) (fun g X hR => t_X4_sumOfGaps X  hR N k1 hk1 hf)
abbrev rm_X4_sumOfShownWidths : Room := { frames := 3, cells := 0, slots := 0, locals := 64 }
theorem lk_X4_sumOfShownWidths_0 : Cond.fieldLink RX4 9 "BlackBars$Sheet" "state" "LBlackBars$State;" ∈ wsX4_sumOfShownWidths := List.mem_of_getElem? (i := 1) rfl
theorem iw_X4_sumOfShownWidths_X4 : ∀ w ∈ wsX40, w ∈ wsX4_sumOfShownWidths := fun _ h => List.mem_cons_of_mem _ (List.mem_append_left _ (List.mem_append_left _ (List.mem_append_left _ (List.mem_append_left _ (List.mem_append_right _ h)))))
theorem iw_X4_sumOfShownWidths_X5 : ∀ w ∈ wsX50, w ∈ wsX4_sumOfShownWidths := fun _ h => List.mem_cons_of_mem _ (List.mem_append_left _ (List.mem_append_left _ (List.mem_append_left _ (List.mem_append_right _ h))))
theorem hd_X4_sumOfShownWidths : kHd yX4_sumOfShownWidths 1 := by decide +kernel
set_option maxHeartbeats 4000000 in
set_option maxRecDepth 100000 in
theorem lt_X4_sumOfShownWidths_4 {g : kG} {cI cS : ClassId} {ad : Nat → Nat} {C : kS} (X : Kx g cI cS cX4_sumOfShownWidths RX4 wsX4_sumOfShownWidths 4 rm_X4_sumOfShownWidths) {r : Int32} (hR : kRI g (WC cI cS ad) 4 cX4_sumOfShownWidths .int C r) (N : Nat) (k1 : Nat) (hk1 : kd k1 = 0) (k33_1 : Int32 → Option (Int32)) (hk33_1 : ∀ (x1 : Int32), k33_1 x1 = some r → J g (WC cI cS ad) 4 C 33 [some (.ref (ad 119)), some (.ref (ad k1)), some (.int x1), none] []) : ∀ (n : Nat) (x3 : Int32) (x4 : Int32), lp_X4_sumOfShownWidths_4 N C k1 k33_1 n x3 x4 = some r → J g (WC cI cS ad) 4 C 4 [some (.ref (ad 119)), some (.ref (ad k1)), some (.int x3), some (.int x4)] [] := by
  intro n
  induction n with
  | zero =>
    intro x3 x4 hf
    rw [lp_X4_sumOfShownWidths_4] at hf
    cases hf
  | succ n ih =>
    intro x3 x4 hf
    rw [lp_X4_sumOfShownWidths_4] at hf
    refine j_iload_n (pc := 4) X dX4_sumOfShownWidths_4 rfl ?_
    refine j_aload_n (pc := 5) X dX4_sumOfShownWidths_5 rfl ?_
    refine j_get (pc := 6) X iw_X4_sumOfShownWidths_X4 (wc4 kd_119) rfl 0 (Nat.le_of_ble_eq_true rfl) lk_X4_sumOfShownWidths_0 (v := .ref (ad 4)) rfl dX4_sumOfShownWidths_6 ?_
    refine j_getN (pc := 9) X iw_X4_sumOfShownWidths_X5 (wc5 kd_4) rfl 0 (Nat.le_of_ble_eq_true rfl) (List.mem_of_getElem? (i := 7) rfl) (v := .ref (ad 5)) rfl dX4_sumOfShownWidths_9 ?_
    obtain ⟨r6, h5, hf⟩ := kB hf
    refine j_callI (pc := 12) X (c_X7_size N C 5 (kd5_1 kd_4 : kd 5 = 7) h5) gX4_sumOfShownWidths_X7_size rfl ⟨rfl, rfl⟩ rfl hd_X7_size ⟨(Nat.le_of_ble_eq_true rfl), (Nat.le_of_ble_eq_true rfl)⟩ (wc7 (kd5_1 kd_4 : kd 5 = 7)) rfl rfl rfl (Nat.le_of_ble_eq_true rfl) rfl dX4_sumOfShownWidths_12 ?_
    refine j_icmp_ge (tgt := 33) (pc := 15) X dX4_sumOfShownWidths_15 rfl (fun c7 => ?_) (fun c7 => ?_)
    · have hf := kT c7 hf
      refine j_weak (lv' := [some (.ref (ad 119)), some (.ref (ad k1)), some (.int x3), none]) (And.intro rfl (And.intro rfl (And.intro rfl trivial))) ?_
      exact hk33_1 _ hf
    · have hf := kF c7 hf
      refine j_iload_n (pc := 18) X dX4_sumOfShownWidths_18 rfl ?_
      refine j_aload_n (pc := 19) X dX4_sumOfShownWidths_19 rfl ?_
      refine j_aload_n (pc := 20) X dX4_sumOfShownWidths_20 rfl ?_
      refine j_iload_n (pc := 21) X dX4_sumOfShownWidths_21 rfl ?_
      obtain ⟨r9, h8, hf⟩ := kB hf
      refine j_callI (pc := 22) X (c_X4_widthUnder N C k1 hk1 x4 h8) gX4_sumOfShownWidths_X4_widthUnder rfl ⟨rfl, rfl⟩ rfl hd_X4_widthUnder ⟨(Nat.le_of_ble_eq_true rfl), (Nat.le_of_ble_eq_true rfl)⟩ (wc4 kd_119) rfl rfl rfl (Nat.le_of_ble_eq_true rfl) rfl dX4_sumOfShownWidths_22 ?_
      refine j_iadd (pc := 25) X dX4_sumOfShownWidths_25 ?_
      refine j_istore_n (pc := 26) X dX4_sumOfShownWidths_26 (Nat.le_of_ble_eq_true rfl) (lv' := [some (.ref (ad 119)), some (.ref (ad k1)), some (.int (x3 + r9)), some (.int x4)]) rfl ?_
      refine j_iinc (pc := 27) X dX4_sumOfShownWidths_27 rfl (v := x4 + 1) (by rw [kc_1]) (Nat.le_of_ble_eq_true rfl) (lv' := [some (.ref (ad 119)), some (.ref (ad k1)), some (.int (x3 + r9)), some (.int (x4 + 1))]) rfl ?_
      refine j_goto (tgt := 4) (pc := 30) X dX4_sumOfShownWidths_30 rfl ?_
      exact ih _ _ hf
set_option maxHeartbeats 4000000 in
set_option maxRecDepth 100000 in
theorem t_X4_sumOfShownWidths {g : kG} {cI cS : ClassId} {ad : Nat → Nat} {C : kS} (X : Kx g cI cS cX4_sumOfShownWidths RX4 wsX4_sumOfShownWidths 4 rm_X4_sumOfShownWidths) {r : Int32} (hR : kRI g (WC cI cS ad) 4 cX4_sumOfShownWidths .int C r) (N : Nat) (k1 : Nat) (hk1 : kd k1 = 0) (hf : f_X4_sumOfShownWidths N C k1 = some r) : J g (WC cI cS ad) 4 C 0 [some (.ref (ad 119)), some (.ref (ad k1)), none, none] [] := by
  unfold f_X4_sumOfShownWidths at hf
  refine j_iconst (pc := 0) X dX4_sumOfShownWidths_0 kc_0 ?_
  refine j_istore_n (pc := 1) X dX4_sumOfShownWidths_1 (Nat.le_of_ble_eq_true rfl) (lv' := [some (.ref (ad 119)), some (.ref (ad k1)), some (.int 0), none]) rfl ?_
  refine j_iconst (pc := 2) X dX4_sumOfShownWidths_2 kc_0 ?_
  refine j_istore_n (pc := 3) X dX4_sumOfShownWidths_3 (Nat.le_of_ble_eq_true rfl) (lv' := [some (.ref (ad 119)), some (.ref (ad k1)), some (.int 0), some (.int 0)]) rfl ?_
  obtain ⟨k33_1, ek33_1, hf⟩ := jn_s hf
  have hk33_1 : ∀ (x1 : Int32), k33_1 x1 = some r → J g (WC cI cS ad) 4 C 33 [some (.ref (ad 119)), some (.ref (ad k1)), some (.int x1), none] [] := by
    intro x1 hf
    have hf := jE1 ek33_1 hf
    refine j_iload_n (pc := 33) X dX4_sumOfShownWidths_33 rfl ?_
    exact j_retI hR dX4_sumOfShownWidths_34 hf
  exact lt_X4_sumOfShownWidths_4 X hR N k1  hk1 k33_1 hk33_1 N _ _ hf
theorem c_X4_sumOfShownWidths {l : Launch} {D : va_G} {cI cS : ClassId} {ad : Nat → Nat} (N : Nat) (C : kS) (k1 : Nat) (hk1 : kd k1 = 0) {r : Int32} (hf : f_X4_sumOfShownWidths N C k1 = some r) : mI l yX4_sumOfShownWidths wsX4_sumOfShownWidths rm_X4_sumOfShownWidths D cI cS (WC cI cS ad) C [.ref (ad 119), .ref (ad k1)] r :=
  mI.of (by decide) rfl rfl (Nat.le_of_ble_eq_true rfl) (fun g X hR => t_X4_sumOfShownWidths X  hR N k1 hk1 hf)
abbrev rm_X4_widthBetween : Room := { frames := 2, cells := 0, slots := 0, locals := 42 }
theorem lk_X4_widthBetween_0 : Cond.fieldLink RX4 9 "BlackBars$Sheet" "state" "LBlackBars$State;" ∈ wsX4_widthBetween := List.mem_of_getElem? (i := 1) rfl
theorem iw_X4_widthBetween_X4 : ∀ w ∈ wsX40, w ∈ wsX4_widthBetween := fun _ h => List.mem_cons_of_mem _ (List.mem_append_left _ (List.mem_append_left _ (List.mem_append_right _ h)))
theorem iw_X4_widthBetween_X5 : ∀ w ∈ wsX50, w ∈ wsX4_widthBetween := fun _ h => List.mem_cons_of_mem _ (List.mem_append_left _ (List.mem_append_right _ h))
theorem hd_X4_widthBetween : kHd yX4_widthBetween 2 := by decide +kernel
set_option maxHeartbeats 4000000 in
set_option maxRecDepth 100000 in
theorem lt_X4_widthBetween_5 {g : kG} {cI cS : ClassId} {ad : Nat → Nat} {C : kS} (X : Kx g cI cS cX4_widthBetween RX4 wsX4_widthBetween 5 rm_X4_widthBetween) {r : Int32} (hR : kRI g (WC cI cS ad) 5 cX4_widthBetween .int C r) (N : Nat) (a1 : Int32) (a2 : Int32)  (k46_1 : Int32 → Option (Int32)) (hk46_1 : ∀ (x1 : Int32), k46_1 x1 = some r → J g (WC cI cS ad) 5 C 46 [some (.ref (ad 119)), some (.int a1), some (.int a2), some (.int x1), none] []) : ∀ (n : Nat) (x3 : Int32) (x4 : Int32), lp_X4_widthBetween_5 N C a1 a2 k46_1 n x3 x4 = some r → J g (WC cI cS ad) 5 C 5 [some (.ref (ad 119)), some (.int a1), some (.int a2), some (.int x3), some (.int x4)] [] := by
  intro n
  induction n with
  | zero =>
    intro x3 x4 hf
    rw [lp_X4_widthBetween_5] at hf
    cases hf
  | succ n ih =>
    intro x3 x4 hf
    rw [lp_X4_widthBetween_5] at hf
    refine j_iload (pc := 5) X dX4_widthBetween_5 rfl ?_
    refine j_iload_n (pc := 7) X dX4_widthBetween_7 rfl ?_
    refine j_icmp_ge (tgt := 46) (pc := 8) X dX4_widthBetween_8 rfl (fun c5 => ?_) (fun c5 => ?_)
    · have hf := kT c5 hf
      refine j_weak (lv' := [some (.ref (ad 119)), some (.int a1), some (.int a2), some (.int x3), none]) (And.intro rfl (And.intro rfl (And.intro rfl (And.intro rfl trivial)))) ?_
      exact hk46_1 _ hf
    · have hf := kF c5 hf
      refine j_iload_n (pc := 11) X dX4_widthBetween_11 rfl ?_
      refine j_aload_n (pc := 12) X dX4_widthBetween_12 rfl ?_
      refine j_iload (pc := 13) X dX4_widthBetween_13 rfl ?_
      obtain ⟨r7, h6, hf⟩ := kB hf
      refine j_callI (pc := 15) X (c_X4_shownWidthOf N C x4 h6) gX4_widthBetween_X4_shownWidthOf rfl ⟨rfl, rfl⟩ rfl hd_X4_shownWidthOf ⟨(Nat.le_of_ble_eq_true rfl), (Nat.le_of_ble_eq_true rfl)⟩ (wc4 kd_119) rfl rfl rfl (Nat.le_of_ble_eq_true rfl) rfl dX4_widthBetween_15 ?_
      refine j_iadd (pc := 18) X dX4_widthBetween_18 ?_
      refine j_istore_n (pc := 19) X dX4_widthBetween_19 (Nat.le_of_ble_eq_true rfl) (lv' := [some (.ref (ad 119)), some (.int a1), some (.int a2), some (.int (x3 + r7)), some (.int x4)]) rfl ?_
      refine j_iload (pc := 20) X dX4_widthBetween_20 rfl ?_
      refine j_iload_n (pc := 22) X dX4_widthBetween_22 rfl ?_
      obtain ⟨j40_8, ej40_8, hf⟩ := jn_s hf
      have hj40_8 : ∀ (x8 : Int32), j40_8 x8 = some r → J g (WC cI cS ad) 5 C 40 [some (.ref (ad 119)), some (.int a1), some (.int a2), some (.int x8), some (.int x4)] [] := by
        intro x8 hf
        have hf := jE1 ej40_8 hf
        refine j_iinc (pc := 40) X dX4_widthBetween_40 rfl (v := x4 + 1) (by rw [kc_1]) (Nat.le_of_ble_eq_true rfl) (lv' := [some (.ref (ad 119)), some (.int a1), some (.int a2), some (.int x8), some (.int (x4 + 1))]) rfl ?_
        refine j_goto (tgt := 5) (pc := 43) X dX4_widthBetween_43 rfl ?_
        exact ih _ _ hf
      refine j_icmp_le (tgt := 40) (pc := 23) X dX4_widthBetween_23 rfl (fun c10 => ?_) (fun c10 => ?_)
      · have hf := kT c10 hf
        exact hj40_8 _ hf
      · have hf := kF c10 hf
        refine j_iload_n (pc := 26) X dX4_widthBetween_26 rfl ?_
        refine j_aload_n (pc := 27) X dX4_widthBetween_27 rfl ?_
        refine j_get (pc := 28) X iw_X4_widthBetween_X4 (wc4 kd_119) rfl 0 (Nat.le_of_ble_eq_true rfl) lk_X4_widthBetween_0 (v := .ref (ad 4)) rfl dX4_widthBetween_28 ?_
        refine j_getN (pc := 31) X iw_X4_widthBetween_X5 (wc5 kd_4) rfl 4 (Nat.le_of_ble_eq_true rfl) (List.mem_of_getElem? (i := 9) rfl) (v := .ref (ad 22)) rfl dX4_widthBetween_31 ?_
        refine j_iconst (pc := 34) X dX4_widthBetween_34 kc_3 ?_
        obtain ⟨r12, h11, hf⟩ := kB hf
        refine j_callI (pc := 35) X (c_X3_at N C 22 (kd5_18 kd_4 : kd 22 = 3) 3 h11) gX4_widthBetween_X3_at rfl ⟨rfl, rfl⟩ rfl hd_X3_at ⟨(Nat.le_of_ble_eq_true rfl), (Nat.le_of_ble_eq_true rfl)⟩ (wc3 (kd5_18 kd_4 : kd 22 = 3)) rfl rfl rfl (Nat.le_of_ble_eq_true rfl) rfl dX4_widthBetween_35 ?_
        refine j_iadd (pc := 38) X dX4_widthBetween_38 ?_
        refine j_istore_n (pc := 39) X dX4_widthBetween_39 (Nat.le_of_ble_eq_true rfl) (lv' := [some (.ref (ad 119)), some (.int a1), some (.int a2), some (.int ((x3 + r7) + r12)), some (.int x4)]) rfl ?_
        exact hj40_8 _ hf
set_option maxHeartbeats 4000000 in
set_option maxRecDepth 100000 in
theorem t_X4_widthBetween {g : kG} {cI cS : ClassId} {ad : Nat → Nat} {C : kS} (X : Kx g cI cS cX4_widthBetween RX4 wsX4_widthBetween 5 rm_X4_widthBetween) {r : Int32} (hR : kRI g (WC cI cS ad) 5 cX4_widthBetween .int C r) (N : Nat) (a1 : Int32) (a2 : Int32)  (hf : f_X4_widthBetween N C a1 a2 = some r) : J g (WC cI cS ad) 5 C 0 [some (.ref (ad 119)), some (.int a1), some (.int a2), none, none] [] := by
  unfold f_X4_widthBetween at hf
  refine j_iconst (pc := 0) X dX4_widthBetween_0 kc_0 ?_
  refine j_istore_n (pc := 1) X dX4_widthBetween_1 (Nat.le_of_ble_eq_true rfl) (lv' := [some (.ref (ad 119)), some (.int a1), some (.int a2), some (.int 0), none]) rfl ?_
  refine j_iload_n (pc := 2) X dX4_widthBetween_2 rfl ?_
  refine j_istore (pc := 3) X dX4_widthBetween_3 (Nat.le_of_ble_eq_true rfl) (lv' := [some (.ref (ad 119)), some (.int a1), some (.int a2), some (.int 0), some (.int a1)]) rfl ?_
  obtain ⟨k46_1, ek46_1, hf⟩ := jn_s hf
  have hk46_1 : ∀ (x1 : Int32), k46_1 x1 = some r → J g (WC cI cS ad) 5 C 46 [some (.ref (ad 119)), some (.int a1), some (.int a2), some (.int x1), none] [] := by
    intro x1 hf
    have hf := jE1 ek46_1 hf
    refine j_iload_n (pc := 46) X dX4_widthBetween_46 rfl ?_
    exact j_retI hR dX4_widthBetween_47 hf
  exact lt_X4_widthBetween_5 X hR N a1 a2    k46_1 hk46_1 N _ _ hf
theorem c_X4_widthBetween {l : Launch} {D : va_G} {cI cS : ClassId} {ad : Nat → Nat} (N : Nat) (C : kS) (a1 : Int32) (a2 : Int32) {r : Int32} (hf : f_X4_widthBetween N C a1 a2 = some r) : mI l yX4_widthBetween wsX4_widthBetween rm_X4_widthBetween D cI cS (WC cI cS ad) C [.ref (ad 119), .int a1, .int a2] r :=
  mI.of (by decide) rfl rfl (Nat.le_of_ble_eq_true rfl) (fun g X hR => t_X4_widthBetween X  hR N a1 a2  hf)
abbrev rm_X6_append : Room := { frames := 1, cells := 0, slots := 0, locals := 22 }
theorem lk_X6_append_0 : Cond.fieldLink RX6 20 "BlackBars$Text" "length" "I" ∈ wsX6_append := List.mem_of_getElem? (i := 1) rfl
theorem iw_X6_append_X6 : ∀ w ∈ wsX60, w ∈ wsX6_append := fun _ h => List.mem_cons_of_mem _ (List.mem_append_left _ (List.mem_append_right _ h))
theorem lk_X6_append_1 : Cond.fieldLink RX6 14 "BlackBars$Text" "characters" "LBlackBars$Row;" ∈ wsX6_append := List.mem_of_getElem? (i := 2) rfl
theorem hd_X6_append : kHd yX6_append 1 := by decide +kernel
set_option maxHeartbeats 4000000 in
set_option maxRecDepth 100000 in
theorem t_X6_append {g : kG} {cI cS : ClassId} {ad : Nat → Nat} (X : Kx g cI cS cX6_append RX6 wsX6_append 2 rm_X6_append) {Cr : kS} (hI : kInj 132 ad) (Y : Kw g (WC cI cS ad) (kAd 132 ad)) (hR : kRV g (WC cI cS ad) 2 cX6_append Cr) (N : Nat) (C : kS) (a1 : Int32)  (hf : f_X6_append N C a1 = some Cr) : J g (WC cI cS ad) 2 C 0 [some (.ref (ad 1)), some (.int a1)] [] := by
  unfold f_X6_append at hf
  refine j_aload_n (pc := 0) X dX6_append_0 rfl ?_
  refine j_get (pc := 1) X iw_X6_append_X6 (wc6 kd_1) rfl 1 (Nat.le_of_ble_eq_true rfl) lk_X6_append_0 (v := .int (C 1 1)) rfl dX6_append_1 ?_
  refine j_sipush (pc := 4) X dX6_append_4 ks_200 ?_
  refine j_icmp_ge (tgt := 32) (pc := 7) X dX6_append_7 rfl (fun c1 => ?_) (fun c1 => ?_)
  · have hf := kT c1 hf
    exact j_retV hR dX6_append_32 hf
  · have hf := kF c1 hf
    refine j_aload_n (pc := 10) X dX6_append_10 rfl ?_
    refine j_get (pc := 11) X iw_X6_append_X6 (wc6 kd_1) rfl 0 (Nat.le_of_ble_eq_true rfl) lk_X6_append_1 (v := .ref (ad 2)) rfl dX6_append_11 ?_
    refine j_aload_n (pc := 14) X dX6_append_14 rfl ?_
    refine j_get (pc := 15) X iw_X6_append_X6 (wc6 kd_1) rfl 1 (Nat.le_of_ble_eq_true rfl) lk_X6_append_0 (v := .int (C 1 1)) rfl dX6_append_15 ?_
    refine j_iload_n (pc := 18) X dX6_append_18 rfl ?_
    obtain ⟨C3, h2, hf⟩ := kB hf
    refine j_callV (pc := 19) X Y (c_X3_put hI N C 2 kd_2 (C 1 1) a1 h2) gX6_append_X3_put rfl ⟨rfl, rfl⟩ rfl hd_X3_put ⟨(Nat.le_of_ble_eq_true rfl), (Nat.le_of_ble_eq_true rfl)⟩ (wc3 kd_2) rfl rfl rfl (Nat.le_of_ble_eq_true rfl) rfl dX6_append_19 ?_
    refine j_aload_n (pc := 22) X dX6_append_22 rfl ?_
    refine j_dup (pc := 23) X dX6_append_23 rfl ?_
    refine j_get (pc := 24) X iw_X6_append_X6 (wc6 kd_1) rfl 1 (Nat.le_of_ble_eq_true rfl) lk_X6_append_0 (v := .int (C3 1 1)) rfl dX6_append_24 ?_
    refine j_iconst (pc := 27) X dX6_append_27 kc_1 ?_
    refine j_iadd (pc := 28) X dX6_append_28 ?_
    obtain ⟨C4, eC4, hf⟩ := jn_s hf
    refine j_put (C' := C4) (pc := 29) X Y iw_X6_append_X6 tyX6 tyX6_ok nmX6 (wc6 kd_1) rfl 1 (Nat.le_of_ble_eq_true rfl) lk_X6_append_0 rfl (tyX6_ok 1 (Nat.le_of_ble_eq_true rfl)) (Nat.le_of_ble_eq_true rfl) dX6_append_29 (by rw [eC4]; exact sc6_1 kd_1 _) ?_
    exact j_retV hR dX6_append_32 hf
theorem c_X6_append {l : Launch} {D : va_G} {cI cS : ClassId} {ad : Nat → Nat} (hI : kInj 132 ad) (N : Nat) (C : kS) (a1 : Int32) {Cr : kS} (hf : f_X6_append N C a1 = some Cr) : mV l yX6_append wsX6_append rm_X6_append D cI cS (WC cI cS ad) (kAd 132 ad) C [.ref (ad 1), .int a1] Cr :=
  mV.of (by decide) rfl rfl (Nat.le_of_ble_eq_true rfl) (WC_D hI) (fun g X Y hR => t_X6_append X hI Y hR N C a1  hf)
abbrev rm_X6_at : Room := { frames := 1, cells := 0, slots := 0, locals := 21 }
theorem lk_X6_at_0 : Cond.fieldLink RX6 14 "BlackBars$Text" "characters" "LBlackBars$Row;" ∈ wsX6_at := List.mem_of_getElem? (i := 1) rfl
theorem iw_X6_at_X6 : ∀ w ∈ wsX60, w ∈ wsX6_at := fun _ h => List.mem_cons_of_mem _ (List.mem_append_left _ (List.mem_append_right _ h))
theorem hd_X6_at : kHd yX6_at 1 := by decide +kernel
set_option maxHeartbeats 4000000 in
set_option maxRecDepth 100000 in
theorem t_X6_at {g : kG} {cI cS : ClassId} {ad : Nat → Nat} {C : kS} (X : Kx g cI cS cX6_at RX6 wsX6_at 2 rm_X6_at) {r : Int32} (hR : kRI g (WC cI cS ad) 2 cX6_at .int C r) (N : Nat) (a1 : Int32)  (hf : f_X6_at N C a1 = some r) : J g (WC cI cS ad) 2 C 0 [some (.ref (ad 1)), some (.int a1)] [] := by
  unfold f_X6_at at hf
  refine j_aload_n (pc := 0) X dX6_at_0 rfl ?_
  refine j_get (pc := 1) X iw_X6_at_X6 (wc6 kd_1) rfl 0 (Nat.le_of_ble_eq_true rfl) lk_X6_at_0 (v := .ref (ad 2)) rfl dX6_at_1 ?_
  refine j_iload_n (pc := 4) X dX6_at_4 rfl ?_
  obtain ⟨r2, h1, hf⟩ := kB hf
  refine j_callI (pc := 5) X (c_X3_at N C 2 kd_2 a1 h1) gX6_at_X3_at rfl ⟨rfl, rfl⟩ rfl hd_X3_at ⟨(Nat.le_of_ble_eq_true rfl), (Nat.le_of_ble_eq_true rfl)⟩ (wc3 kd_2) rfl rfl rfl (Nat.le_of_ble_eq_true rfl) rfl dX6_at_5 ?_
  exact j_retI hR dX6_at_8 hf
theorem c_X6_at {l : Launch} {D : va_G} {cI cS : ClassId} {ad : Nat → Nat} (N : Nat) (C : kS) (a1 : Int32) {r : Int32} (hf : f_X6_at N C a1 = some r) : mI l yX6_at wsX6_at rm_X6_at D cI cS (WC cI cS ad) C [.ref (ad 1), .int a1] r :=
  mI.of (by decide) rfl rfl (Nat.le_of_ble_eq_true rfl) (fun g X hR => t_X6_at X  hR N a1  hf)
abbrev rm_X6_empty : Room := { frames := 0, cells := 0, slots := 0, locals := 0 }
theorem lk_X6_empty_0 : Cond.fieldLink RX6 20 "BlackBars$Text" "length" "I" ∈ wsX6_empty := List.mem_of_getElem? (i := 1) rfl
theorem iw_X6_empty_X6 : ∀ w ∈ wsX60, w ∈ wsX6_empty := fun _ h => List.mem_cons_of_mem _ (List.mem_append_right _ h)
theorem hd_X6_empty : kHd yX6_empty 0 := by decide +kernel
set_option maxHeartbeats 4000000 in
set_option maxRecDepth 100000 in
theorem t_X6_empty {g : kG} {cI cS : ClassId} {ad : Nat → Nat} (X : Kx g cI cS cX6_empty RX6 wsX6_empty 1 rm_X6_empty) {Cr : kS} (hI : kInj 132 ad) (Y : Kw g (WC cI cS ad) (kAd 132 ad)) (hR : kRV g (WC cI cS ad) 1 cX6_empty Cr) (N : Nat) (C : kS)   (hf : f_X6_empty N C = some Cr) : J g (WC cI cS ad) 1 C 0 [some (.ref (ad 1))] [] := by
  unfold f_X6_empty at hf
  refine j_aload_n (pc := 0) X dX6_empty_0 rfl ?_
  refine j_iconst (pc := 1) X dX6_empty_1 kc_0 ?_
  obtain ⟨C1, eC1, hf⟩ := jn_s hf
  refine j_put (C' := C1) (pc := 2) X Y iw_X6_empty_X6 tyX6 tyX6_ok nmX6 (wc6 kd_1) rfl 1 (Nat.le_of_ble_eq_true rfl) lk_X6_empty_0 rfl (tyX6_ok 1 (Nat.le_of_ble_eq_true rfl)) (Nat.le_of_ble_eq_true rfl) dX6_empty_2 (by rw [eC1]; exact sc6_1 kd_1 _) ?_
  exact j_retV hR dX6_empty_5 hf
theorem c_X6_empty {l : Launch} {D : va_G} {cI cS : ClassId} {ad : Nat → Nat} (hI : kInj 132 ad) (N : Nat) (C : kS)  {Cr : kS} (hf : f_X6_empty N C = some Cr) : mV l yX6_empty wsX6_empty rm_X6_empty D cI cS (WC cI cS ad) (kAd 132 ad) C [.ref (ad 1)] Cr :=
  mV.of (by decide) rfl rfl (Nat.le_of_ble_eq_true rfl) (WC_D hI) (fun g X Y hR => t_X6_empty X hI Y hR N C   hf)
abbrev rm_X8_isLetter : Room := { frames := 0, cells := 0, slots := 0, locals := 0 }
theorem hd_X8_isLetter : kHd yX8_isLetter 1 := by decide +kernel
set_option maxHeartbeats 4000000 in
set_option maxRecDepth 100000 in
theorem t_X8_isLetter {g : kG} {cI cS : ClassId} (X : Kx g cI cS cX8_isLetter RX8 wsX8_isLetter 1 rm_X8_isLetter) {r : Int32} (hR : kRI g kWe 1 cX8_isLetter .boolean kC0 r) (N : Nat) (a0 : Int32)  (hf : f_X8_isLetter N a0 = some r) : J g kWe 1 kC0 0 [some (.int a0)] [] := by
  unfold f_X8_isLetter at hf
  refine j_iload_n (pc := 0) X dX8_isLetter_0 rfl ?_
  refine j_bipush (pc := 1) X dX8_isLetter_1 kb_97 ?_
  obtain ⟨j17_1, ej17_1, hf⟩ := jn_s hf
  have hj17_1 : ∀ (t1 : Int32), j17_1 t1 = some r → J g kWe 1 kC0 17 [some (.int a0)] [.int t1] := by
    intro t1 hf
    have hf := jE1 ej17_1 hf
    exact j_retB hR dX8_isLetter_17 hf
  refine j_icmp_lt (tgt := 16) (pc := 3) X dX8_isLetter_3 rfl (fun c3 => ?_) (fun c3 => ?_)
  · have hf := kT c3 hf
    refine j_iconst (pc := 16) X dX8_isLetter_16 kc_0 ?_
    exact hj17_1 _ hf
  · have hf := kF c3 hf
    refine j_iload_n (pc := 6) X dX8_isLetter_6 rfl ?_
    refine j_bipush (pc := 7) X dX8_isLetter_7 kb_122 ?_
    refine j_icmp_gt (tgt := 16) (pc := 9) X dX8_isLetter_9 rfl (fun c4 => ?_) (fun c4 => ?_)
    · have hf := kT c4 hf
      refine j_iconst (pc := 16) X dX8_isLetter_16 kc_0 ?_
      exact hj17_1 _ hf
    · have hf := kF c4 hf
      refine j_iconst (pc := 12) X dX8_isLetter_12 kc_1 ?_
      refine j_goto (tgt := 17) (pc := 13) X dX8_isLetter_13 rfl ?_
      exact hj17_1 _ hf
theorem c_X8_isLetter {l : Launch} {D : va_G} {cI cS : ClassId}  (N : Nat) (a0 : Int32) {r : Int32} (hf : f_X8_isLetter N a0 = some r) : mP l yX8_isLetter wsX8_isLetter rm_X8_isLetter D cI cS [.int a0] r :=
  mP.of (by decide) rfl rfl (Nat.le_of_ble_eq_true rfl) (fun g X hR => t_X8_isLetter X  hR N a0  hf)
abbrev rm_X6_lettersAhead : Room := { frames := 1, cells := 0, slots := 0, locals := 21 }
theorem lk_X6_lettersAhead_0 : Cond.fieldLink RX6 14 "BlackBars$Text" "characters" "LBlackBars$Row;" ∈ wsX6_lettersAhead := List.mem_of_getElem? (i := 1) rfl
theorem iw_X6_lettersAhead_X6 : ∀ w ∈ wsX60, w ∈ wsX6_lettersAhead := fun _ h => List.mem_cons_of_mem _ (List.mem_append_left _ (List.mem_append_right _ h))
theorem lk_X6_lettersAhead_8 : Cond.initialized RX8 ∈ wsX6_lettersAhead := List.mem_of_getElem? (i := 9) rfl
theorem lk_X6_lettersAhead_7 : Cond.static yX8_isLetter ∈ wsX6_lettersAhead := List.mem_of_getElem? (i := 8) rfl
theorem hd_X6_lettersAhead : kHd yX6_lettersAhead 1 := by decide +kernel
set_option maxHeartbeats 4000000 in
set_option maxRecDepth 100000 in
theorem lt_X6_lettersAhead_2 {g : kG} {cI cS : ClassId} {ad : Nat → Nat} {C : kS} (X : Kx g cI cS cX6_lettersAhead RX6 wsX6_lettersAhead 3 rm_X6_lettersAhead) {r : Int32} (hR : kRI g (WC cI cS ad) 3 cX6_lettersAhead .int C r) (N : Nat) (a1 : Int32)  (k32_1 : Int32 → Option (Int32)) (hk32_1 : ∀ (x1 : Int32), k32_1 x1 = some r → J g (WC cI cS ad) 3 C 32 [some (.ref (ad 1)), some (.int a1), some (.int x1)] []) : ∀ (n : Nat) (x3 : Int32), lp_X6_lettersAhead_2 N C a1 k32_1 n x3 = some r → J g (WC cI cS ad) 3 C 2 [some (.ref (ad 1)), some (.int a1), some (.int x3)] [] := by
  intro n
  induction n with
  | zero =>
    intro x3 hf
    rw [lp_X6_lettersAhead_2] at hf
    cases hf
  | succ n ih =>
    intro x3 hf
    rw [lp_X6_lettersAhead_2] at hf
    refine j_iload_n (pc := 2) X dX6_lettersAhead_2 rfl ?_
    refine j_bipush (pc := 3) X dX6_lettersAhead_3 kb_12 ?_
    refine j_icmp_ge (tgt := 32) (pc := 5) X dX6_lettersAhead_5 rfl (fun c4 => ?_) (fun c4 => ?_)
    · have hf := kT c4 hf
      exact hk32_1 _ hf
    · have hf := kF c4 hf
      refine j_aload_n (pc := 8) X dX6_lettersAhead_8 rfl ?_
      refine j_get (pc := 9) X iw_X6_lettersAhead_X6 (wc6 kd_1) rfl 0 (Nat.le_of_ble_eq_true rfl) lk_X6_lettersAhead_0 (v := .ref (ad 2)) rfl dX6_lettersAhead_9 ?_
      refine j_iload_n (pc := 12) X dX6_lettersAhead_12 rfl ?_
      refine j_iconst (pc := 13) X dX6_lettersAhead_13 kc_1 ?_
      refine j_isub (pc := 14) X dX6_lettersAhead_14 ?_
      refine j_iload_n (pc := 15) X dX6_lettersAhead_15 rfl ?_
      refine j_isub (pc := 16) X dX6_lettersAhead_16 ?_
      obtain ⟨r6, h5, hf⟩ := kB hf
      refine j_callI (pc := 17) X (c_X3_at N C 2 kd_2 ((a1 - 1) - x3) h5) gX6_lettersAhead_X3_at rfl ⟨rfl, rfl⟩ rfl hd_X3_at ⟨(Nat.le_of_ble_eq_true rfl), (Nat.le_of_ble_eq_true rfl)⟩ (wc3 kd_2) rfl rfl rfl (Nat.le_of_ble_eq_true rfl) rfl dX6_lettersAhead_17 ?_
      obtain ⟨r8, h7, hf⟩ := kB hf
      refine j_callN (pc := 20) X (c_X8_isLetter N r6 h7) ggX6_lettersAhead_X8_isLetter rfl ⟨rfl, rfl⟩ X.2.2.2.2.2.1.2.2.1 lk_X6_lettersAhead_8 lk_X6_lettersAhead_7 hd_X8_isLetter ⟨(Nat.le_of_ble_eq_true rfl), (Nat.le_of_ble_eq_true rfl)⟩ rfl (Nat.le_of_ble_eq_true rfl) rfl dX6_lettersAhead_20 ?_
      refine j_if_eq (tgt := 32) (pc := 23) X dX6_lettersAhead_23 rfl (fun c9 => ?_) (fun c9 => ?_)
      · have hf := kT c9 hf
        exact hk32_1 _ hf
      · have hf := kF c9 hf
        refine j_iinc (pc := 26) X dX6_lettersAhead_26 rfl (v := x3 + 1) (by rw [kc_1]) (Nat.le_of_ble_eq_true rfl) (lv' := [some (.ref (ad 1)), some (.int a1), some (.int (x3 + 1))]) rfl ?_
        refine j_goto (tgt := 2) (pc := 29) X dX6_lettersAhead_29 rfl ?_
        exact ih _ hf
set_option maxHeartbeats 4000000 in
set_option maxRecDepth 100000 in
theorem t_X6_lettersAhead {g : kG} {cI cS : ClassId} {ad : Nat → Nat} {C : kS} (X : Kx g cI cS cX6_lettersAhead RX6 wsX6_lettersAhead 3 rm_X6_lettersAhead) {r : Int32} (hR : kRI g (WC cI cS ad) 3 cX6_lettersAhead .int C r) (N : Nat) (a1 : Int32)  (hf : f_X6_lettersAhead N C a1 = some r) : J g (WC cI cS ad) 3 C 0 [some (.ref (ad 1)), some (.int a1), none] [] := by
  unfold f_X6_lettersAhead at hf
  refine j_iconst (pc := 0) X dX6_lettersAhead_0 kc_0 ?_
  refine j_istore_n (pc := 1) X dX6_lettersAhead_1 (Nat.le_of_ble_eq_true rfl) (lv' := [some (.ref (ad 1)), some (.int a1), some (.int 0)]) rfl ?_
  obtain ⟨k32_1, ek32_1, hf⟩ := jn_s hf
  have hk32_1 : ∀ (x1 : Int32), k32_1 x1 = some r → J g (WC cI cS ad) 3 C 32 [some (.ref (ad 1)), some (.int a1), some (.int x1)] [] := by
    intro x1 hf
    have hf := jE1 ek32_1 hf
    refine j_iload_n (pc := 32) X dX6_lettersAhead_32 rfl ?_
    exact j_retI hR dX6_lettersAhead_33 hf
  exact lt_X6_lettersAhead_2 X hR N a1   k32_1 hk32_1 N _ hf
theorem c_X6_lettersAhead {l : Launch} {D : va_G} {cI cS : ClassId} {ad : Nat → Nat} (N : Nat) (C : kS) (a1 : Int32) {r : Int32} (hf : f_X6_lettersAhead N C a1 = some r) : mI l yX6_lettersAhead wsX6_lettersAhead rm_X6_lettersAhead D cI cS (WC cI cS ad) C [.ref (ad 1), .int a1] r :=
  mI.of (by decide) rfl rfl (Nat.le_of_ble_eq_true rfl) (fun g X hR => t_X6_lettersAhead X  hR N a1  hf)
abbrev rm_X6_wordsAhead : Room := { frames := 1, cells := 0, slots := 0, locals := 21 }
theorem lk_X6_wordsAhead_0 : Cond.fieldLink RX6 14 "BlackBars$Text" "characters" "LBlackBars$Row;" ∈ wsX6_wordsAhead := List.mem_of_getElem? (i := 1) rfl
theorem iw_X6_wordsAhead_X6 : ∀ w ∈ wsX60, w ∈ wsX6_wordsAhead := fun _ h => List.mem_cons_of_mem _ (List.mem_append_left _ (List.mem_append_right _ h))
theorem lk_X6_wordsAhead_8 : Cond.initialized RX8 ∈ wsX6_wordsAhead := List.mem_of_getElem? (i := 9) rfl
theorem lk_X6_wordsAhead_7 : Cond.static yX8_isLetter ∈ wsX6_wordsAhead := List.mem_of_getElem? (i := 8) rfl
theorem hd_X6_wordsAhead : kHd yX6_wordsAhead 1 := by decide +kernel
set_option maxHeartbeats 4000000 in
set_option maxRecDepth 100000 in
theorem lt_X6_wordsAhead_4 {g : kG} {cI cS : ClassId} {ad : Nat → Nat} {C : kS} (X : Kx g cI cS cX6_wordsAhead RX6 wsX6_wordsAhead 4 rm_X6_wordsAhead) {r : Int32} (hR : kRI g (WC cI cS ad) 4 cX6_wordsAhead .int C r) (N : Nat) (a1 : Int32)  (k48_1 : Int32 → Option (Int32)) (hk48_1 : ∀ (x1 : Int32), k48_1 x1 = some r → J g (WC cI cS ad) 4 C 48 [some (.ref (ad 1)), some (.int a1), some (.int x1), none] []) : ∀ (n : Nat) (x3 : Int32) (x4 : Int32), lp_X6_wordsAhead_4 N C a1 k48_1 n x3 x4 = some r → J g (WC cI cS ad) 4 C 4 [some (.ref (ad 1)), some (.int a1), some (.int x3), some (.int x4)] [] := by
  intro n
  induction n with
  | zero =>
    intro x3 x4 hf
    rw [lp_X6_wordsAhead_4] at hf
    cases hf
  | succ n ih =>
    intro x3 x4 hf
    rw [lp_X6_wordsAhead_4] at hf
    refine j_iload_n (pc := 4) X dX6_wordsAhead_4 rfl ?_
    refine j_iload_n (pc := 5) X dX6_wordsAhead_5 rfl ?_
    refine j_icmp_ge (tgt := 48) (pc := 6) X dX6_wordsAhead_6 rfl (fun c5 => ?_) (fun c5 => ?_)
    · have hf := kT c5 hf
      refine j_weak (lv' := [some (.ref (ad 1)), some (.int a1), some (.int x3), none]) (And.intro rfl (And.intro rfl (And.intro rfl trivial))) ?_
      exact hk48_1 _ hf
    · have hf := kF c5 hf
      refine j_aload_n (pc := 9) X dX6_wordsAhead_9 rfl ?_
      refine j_get (pc := 10) X iw_X6_wordsAhead_X6 (wc6 kd_1) rfl 0 (Nat.le_of_ble_eq_true rfl) lk_X6_wordsAhead_0 (v := .ref (ad 2)) rfl dX6_wordsAhead_10 ?_
      refine j_iload_n (pc := 13) X dX6_wordsAhead_13 rfl ?_
      obtain ⟨r7, h6, hf⟩ := kB hf
      refine j_callI (pc := 14) X (c_X3_at N C 2 kd_2 x4 h6) gX6_wordsAhead_X3_at rfl ⟨rfl, rfl⟩ rfl hd_X3_at ⟨(Nat.le_of_ble_eq_true rfl), (Nat.le_of_ble_eq_true rfl)⟩ (wc3 kd_2) rfl rfl rfl (Nat.le_of_ble_eq_true rfl) rfl dX6_wordsAhead_14 ?_
      obtain ⟨r9, h8, hf⟩ := kB hf
      refine j_callN (pc := 17) X (c_X8_isLetter N r7 h8) ggX6_wordsAhead_X8_isLetter rfl ⟨rfl, rfl⟩ X.2.2.2.2.2.1.2.2.1 lk_X6_wordsAhead_8 lk_X6_wordsAhead_7 hd_X8_isLetter ⟨(Nat.le_of_ble_eq_true rfl), (Nat.le_of_ble_eq_true rfl)⟩ rfl (Nat.le_of_ble_eq_true rfl) rfl dX6_wordsAhead_17 ?_
      obtain ⟨j42_10, ej42_10, hf⟩ := jn_s hf
      have hj42_10 : ∀ (x10 : Int32), j42_10 x10 = some r → J g (WC cI cS ad) 4 C 42 [some (.ref (ad 1)), some (.int a1), some (.int x10), some (.int x4)] [] := by
        intro x10 hf
        have hf := jE1 ej42_10 hf
        refine j_iinc (pc := 42) X dX6_wordsAhead_42 rfl (v := x4 + 1) (by rw [kc_1]) (Nat.le_of_ble_eq_true rfl) (lv' := [some (.ref (ad 1)), some (.int a1), some (.int x10), some (.int (x4 + 1))]) rfl ?_
        refine j_goto (tgt := 4) (pc := 45) X dX6_wordsAhead_45 rfl ?_
        exact ih _ _ hf
      refine j_if_eq (tgt := 42) (pc := 20) X dX6_wordsAhead_20 rfl (fun c12 => ?_) (fun c12 => ?_)
      · have hf := kT c12 hf
        exact hj42_10 _ hf
      · have hf := kF c12 hf
        refine j_aload_n (pc := 23) X dX6_wordsAhead_23 rfl ?_
        refine j_get (pc := 24) X iw_X6_wordsAhead_X6 (wc6 kd_1) rfl 0 (Nat.le_of_ble_eq_true rfl) lk_X6_wordsAhead_0 (v := .ref (ad 2)) rfl dX6_wordsAhead_24 ?_
        refine j_iload_n (pc := 27) X dX6_wordsAhead_27 rfl ?_
        refine j_iconst (pc := 28) X dX6_wordsAhead_28 kc_1 ?_
        refine j_isub (pc := 29) X dX6_wordsAhead_29 ?_
        obtain ⟨r14, h13, hf⟩ := kB hf
        refine j_callI (pc := 30) X (c_X3_at N C 2 kd_2 (x4 - 1) h13) gX6_wordsAhead_X3_at rfl ⟨rfl, rfl⟩ rfl hd_X3_at ⟨(Nat.le_of_ble_eq_true rfl), (Nat.le_of_ble_eq_true rfl)⟩ (wc3 kd_2) rfl rfl rfl (Nat.le_of_ble_eq_true rfl) rfl dX6_wordsAhead_30 ?_
        obtain ⟨r16, h15, hf⟩ := kB hf
        refine j_callN (pc := 33) X (c_X8_isLetter N r14 h15) ggX6_wordsAhead_X8_isLetter rfl ⟨rfl, rfl⟩ X.2.2.2.2.2.1.2.2.1 lk_X6_wordsAhead_8 lk_X6_wordsAhead_7 hd_X8_isLetter ⟨(Nat.le_of_ble_eq_true rfl), (Nat.le_of_ble_eq_true rfl)⟩ rfl (Nat.le_of_ble_eq_true rfl) rfl dX6_wordsAhead_33 ?_
        refine j_if_ne (tgt := 42) (pc := 36) X dX6_wordsAhead_36 rfl (fun c17 => ?_) (fun c17 => ?_)
        · have hf := kF c17 hf
          exact hj42_10 _ hf
        · have hf := kT c17 hf
          refine j_iinc (pc := 39) X dX6_wordsAhead_39 rfl (v := x3 + 1) (by rw [kc_1]) (Nat.le_of_ble_eq_true rfl) (lv' := [some (.ref (ad 1)), some (.int a1), some (.int (x3 + 1)), some (.int x4)]) rfl ?_
          exact hj42_10 _ hf
set_option maxHeartbeats 4000000 in
set_option maxRecDepth 100000 in
theorem t_X6_wordsAhead {g : kG} {cI cS : ClassId} {ad : Nat → Nat} {C : kS} (X : Kx g cI cS cX6_wordsAhead RX6 wsX6_wordsAhead 4 rm_X6_wordsAhead) {r : Int32} (hR : kRI g (WC cI cS ad) 4 cX6_wordsAhead .int C r) (N : Nat) (a1 : Int32)  (hf : f_X6_wordsAhead N C a1 = some r) : J g (WC cI cS ad) 4 C 0 [some (.ref (ad 1)), some (.int a1), none, none] [] := by
  unfold f_X6_wordsAhead at hf
  refine j_iconst (pc := 0) X dX6_wordsAhead_0 kc_0 ?_
  refine j_istore_n (pc := 1) X dX6_wordsAhead_1 (Nat.le_of_ble_eq_true rfl) (lv' := [some (.ref (ad 1)), some (.int a1), some (.int 0), none]) rfl ?_
  refine j_iconst (pc := 2) X dX6_wordsAhead_2 kc_0 ?_
  refine j_istore_n (pc := 3) X dX6_wordsAhead_3 (Nat.le_of_ble_eq_true rfl) (lv' := [some (.ref (ad 1)), some (.int a1), some (.int 0), some (.int 0)]) rfl ?_
  obtain ⟨k48_1, ek48_1, hf⟩ := jn_s hf
  have hk48_1 : ∀ (x1 : Int32), k48_1 x1 = some r → J g (WC cI cS ad) 4 C 48 [some (.ref (ad 1)), some (.int a1), some (.int x1), none] [] := by
    intro x1 hf
    have hf := jE1 ek48_1 hf
    refine j_iload_n (pc := 48) X dX6_wordsAhead_48 rfl ?_
    exact j_retI hR dX6_wordsAhead_49 hf
  exact lt_X6_wordsAhead_4 X hR N a1   k48_1 hk48_1 N _ _ hf
theorem c_X6_wordsAhead {l : Launch} {D : va_G} {cI cS : ClassId} {ad : Nat → Nat} (N : Nat) (C : kS) (a1 : Int32) {r : Int32} (hf : f_X6_wordsAhead N C a1 = some r) : mI l yX6_wordsAhead wsX6_wordsAhead rm_X6_wordsAhead D cI cS (WC cI cS ad) C [.ref (ad 1), .int a1] r :=
  mI.of (by decide) rfl rfl (Nat.le_of_ble_eq_true rfl) (fun g X hR => t_X6_wordsAhead X  hR N a1  hf)
