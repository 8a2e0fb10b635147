abbrev rm_X6_faultReason : Room := { frames := 2, cells := 0, slots := 0, locals := 44 }
theorem lk_X6_faultReason_0 : Cond.fieldLink RX6 14 "BlackBars$Text" "characters" "LBlackBars$Row;" ∈ wsX6_faultReason := List.mem_of_getElem? (i := 1) rfl
theorem iw_X6_faultReason_X6 : ∀ w ∈ wsX60, w ∈ wsX6_faultReason := fun _ h => List.mem_cons_of_mem _ (List.mem_append_left _ (List.mem_append_right _ h))
theorem lk_X6_faultReason_14 : Cond.initialized RX8 ∈ wsX6_faultReason := List.mem_of_getElem? (i := 15) rfl
theorem lk_X6_faultReason_13 : Cond.static yX8_isLetter ∈ wsX6_faultReason := List.mem_of_getElem? (i := 14) rfl
theorem lk_X6_faultReason_1 : Cond.fieldLink RX6 20 "BlackBars$Text" "length" "I" ∈ wsX6_faultReason := List.mem_of_getElem? (i := 2) rfl
theorem hd_X6_faultReason : kHd yX6_faultReason 1 := by decide +kernel
set_option maxHeartbeats 4000000 in
set_option maxRecDepth 100000 in
theorem t_X6_faultReason {g : kG} {cI cS : ClassId} {ad : Nat → Nat} {C : kS} (X : Kx g cI cS cX6_faultReason RX6 wsX6_faultReason 4 rm_X6_faultReason) {r : Int32} (hR : kRI g (WC cI cS ad) 4 cX6_faultReason .int C r) (N : Nat) (a1 : Int32)  (hf : f_X6_faultReason N C a1 = some r) : J g (WC cI cS ad) 4 C 0 [some (.ref (ad 1)), some (.int a1), none, none] [] := by
  unfold f_X6_faultReason at hf
  refine j_aload_n (pc := 0) X dX6_faultReason_0 rfl ?_
  refine j_get (pc := 1) X iw_X6_faultReason_X6 (wc6 kd_1) rfl 0 (Nat.le_of_ble_eq_true rfl) lk_X6_faultReason_0 (v := .ref (ad 2)) rfl dX6_faultReason_1 ?_
  refine j_iload_n (pc := 4) X dX6_faultReason_4 rfl ?_
  obtain ⟨r2, h1, hf⟩ := kB hf
  refine j_callI (pc := 5) X (c_X3_at N C 2 kd_2 a1 h1) gX6_faultReason_X3_at rfl ⟨rfl, rfl⟩ rfl hd_X3_at ⟨(Nat.le_of_ble_eq_true rfl), (Nat.le_of_ble_eq_true rfl)⟩ (wc3 kd_2) rfl rfl rfl (Nat.le_of_ble_eq_true rfl) rfl dX6_faultReason_5 ?_
  refine j_istore_n (pc := 8) X dX6_faultReason_8 (Nat.le_of_ble_eq_true rfl) (lv' := [some (.ref (ad 1)), some (.int a1), some (.int r2), none]) rfl ?_
  refine j_iload_n (pc := 9) X dX6_faultReason_9 rfl ?_
  refine j_bipush (pc := 10) X dX6_faultReason_10 kb_32 ?_
  refine j_icmp_ne (tgt := 49) (pc := 12) X dX6_faultReason_12 rfl (fun c3 => ?_) (fun c3 => ?_)
  · have hf := kF c3 hf
    refine j_iload_n (pc := 49) X dX6_faultReason_49 rfl ?_
    obtain ⟨r5, h4, hf⟩ := kB hf
    refine j_callN (pc := 50) X (c_X8_isLetter N r2 h4) ggX6_faultReason_X8_isLetter rfl ⟨rfl, rfl⟩ X.2.2.2.2.2.1.2.2.1 lk_X6_faultReason_14 lk_X6_faultReason_13 hd_X8_isLetter ⟨(Nat.le_of_ble_eq_true rfl), (Nat.le_of_ble_eq_true rfl)⟩ rfl (Nat.le_of_ble_eq_true rfl) rfl dX6_faultReason_50 ?_
    refine j_if_ne (tgt := 58) (pc := 53) X dX6_faultReason_53 rfl (fun c6 => ?_) (fun c6 => ?_)
    · have hf := kF c6 hf
      refine j_aload_n (pc := 58) X dX6_faultReason_58 rfl ?_
      refine j_iload_n (pc := 59) X dX6_faultReason_59 rfl ?_
      obtain ⟨r8, h7, hf⟩ := kB hf
      refine j_callI (pc := 60) X (c_X6_lettersAhead N C a1 h7) gX6_faultReason_X6_lettersAhead rfl ⟨rfl, rfl⟩ rfl hd_X6_lettersAhead ⟨(Nat.le_of_ble_eq_true rfl), (Nat.le_of_ble_eq_true rfl)⟩ (wc6 kd_1) rfl rfl rfl (Nat.le_of_ble_eq_true rfl) rfl dX6_faultReason_60 ?_
      refine j_istore_n (pc := 63) X dX6_faultReason_63 (Nat.le_of_ble_eq_true rfl) (lv' := [some (.ref (ad 1)), some (.int a1), some (.int r2), some (.int r8)]) rfl ?_
      refine j_iload_n (pc := 64) X dX6_faultReason_64 rfl ?_
      refine j_bipush (pc := 65) X dX6_faultReason_65 kb_12 ?_
      refine j_icmp_lt (tgt := 72) (pc := 67) X dX6_faultReason_67 rfl (fun c9 => ?_) (fun c9 => ?_)
      · have hf := kT c9 hf
        refine j_iload_n (pc := 72) X dX6_faultReason_72 rfl ?_
        obtain ⟨j91_10, ej91_10, hf⟩ := jn_s hf
        have hj91_10 : ∀ (t10 : Int32), j91_10 t10 = some r → J g (WC cI cS ad) 4 C 91 [some (.ref (ad 1)), some (.int a1), some (.int r2), some (.int r8)] [.int t10] := by
          intro t10 hf
          have hf := jE1 ej91_10 hf
          exact j_retI hR dX6_faultReason_91 hf
        refine j_if_ne (tgt := 90) (pc := 73) X dX6_faultReason_73 rfl (fun c12 => ?_) (fun c12 => ?_)
        · have hf := kF c12 hf
          refine j_iconst (pc := 90) X dX6_faultReason_90 kc_0 ?_
          exact hj91_10 _ hf
        · have hf := kT c12 hf
          refine j_aload_n (pc := 76) X dX6_faultReason_76 rfl ?_
          refine j_iload_n (pc := 77) X dX6_faultReason_77 rfl ?_
          obtain ⟨r14, h13, hf⟩ := kB hf
          refine j_callI (pc := 78) X (c_X6_wordsAhead N C a1 h13) gX6_faultReason_X6_wordsAhead rfl ⟨rfl, rfl⟩ rfl hd_X6_wordsAhead ⟨(Nat.le_of_ble_eq_true rfl), (Nat.le_of_ble_eq_true rfl)⟩ (wc6 kd_1) rfl rfl rfl (Nat.le_of_ble_eq_true rfl) rfl dX6_faultReason_78 ?_
          refine j_bipush (pc := 81) X dX6_faultReason_81 kb_40 ?_
          refine j_icmp_lt (tgt := 90) (pc := 83) X dX6_faultReason_83 rfl (fun c15 => ?_) (fun c15 => ?_)
          · have hf := kT c15 hf
            refine j_iconst (pc := 90) X dX6_faultReason_90 kc_0 ?_
            exact hj91_10 _ hf
          · have hf := kF c15 hf
            refine j_iconst (pc := 86) X dX6_faultReason_86 kc_4 ?_
            refine j_goto (tgt := 91) (pc := 87) X dX6_faultReason_87 rfl ?_
            exact hj91_10 _ hf
      · have hf := kF c9 hf
        refine j_iconst (pc := 70) X dX6_faultReason_70 kc_3 ?_
        exact j_retI hR dX6_faultReason_71 hf
    · have hf := kT c6 hf
      refine j_iconst (pc := 56) X dX6_faultReason_56 kc_1 ?_
      exact j_retI hR dX6_faultReason_57 hf
  · have hf := kT c3 hf
    refine j_aload_n (pc := 15) X dX6_faultReason_15 rfl ?_
    refine j_iload_n (pc := 16) X dX6_faultReason_16 rfl ?_
    obtain ⟨r17, h16, hf⟩ := kB hf
    refine j_callI (pc := 17) X (c_X6_lettersAhead N C a1 h16) gX6_faultReason_X6_lettersAhead rfl ⟨rfl, rfl⟩ rfl hd_X6_lettersAhead ⟨(Nat.le_of_ble_eq_true rfl), (Nat.le_of_ble_eq_true rfl)⟩ (wc6 kd_1) rfl rfl rfl (Nat.le_of_ble_eq_true rfl) rfl dX6_faultReason_17 ?_
    obtain ⟨j28_18, ej28_18, hf⟩ := jn_s hf
    have hj28_18 : ∀ (t18 : Int32), j28_18 t18 = some r → J g (WC cI cS ad) 4 C 28 [some (.ref (ad 1)), some (.int a1), some (.int r2), none] [.int t18] := by
      intro t18 hf
      have hf := jE1 ej28_18 hf
      refine j_istore_n (pc := 28) X dX6_faultReason_28 (Nat.le_of_ble_eq_true rfl) (lv' := [some (.ref (ad 1)), some (.int a1), some (.int r2), some (.int t18)]) rfl ?_
      refine j_iload_n (pc := 29) X dX6_faultReason_29 rfl ?_
      obtain ⟨j48_20, ej48_20, hf⟩ := jn_s hf
      have hj48_20 : ∀ (t20 : Int32), j48_20 t20 = some r → J g (WC cI cS ad) 4 C 48 [some (.ref (ad 1)), some (.int a1), some (.int r2), some (.int t18)] [.int t20] := by
        intro t20 hf
        have hf := jE1 ej48_20 hf
        exact j_retI hR dX6_faultReason_48 hf
      refine j_if_eq (tgt := 47) (pc := 30) X dX6_faultReason_30 rfl (fun c22 => ?_) (fun c22 => ?_)
      · have hf := kT c22 hf
        refine j_iconst (pc := 47) X dX6_faultReason_47 kc_2 ?_
        exact hj48_20 _ hf
      · have hf := kF c22 hf
        refine j_iload_n (pc := 33) X dX6_faultReason_33 rfl ?_
        refine j_aload_n (pc := 34) X dX6_faultReason_34 rfl ?_
        refine j_get (pc := 35) X iw_X6_faultReason_X6 (wc6 kd_1) rfl 1 (Nat.le_of_ble_eq_true rfl) lk_X6_faultReason_1 (v := .int (C 1 1)) rfl dX6_faultReason_35 ?_
        refine j_iconst (pc := 38) X dX6_faultReason_38 kc_1 ?_
        refine j_isub (pc := 39) X dX6_faultReason_39 ?_
        refine j_icmp_ge (tgt := 47) (pc := 40) X dX6_faultReason_40 rfl (fun c23 => ?_) (fun c23 => ?_)
        · have hf := kT c23 hf
          refine j_iconst (pc := 47) X dX6_faultReason_47 kc_2 ?_
          exact hj48_20 _ hf
        · have hf := kF c23 hf
          refine j_iconst (pc := 43) X dX6_faultReason_43 kc_0 ?_
          refine j_goto (tgt := 48) (pc := 44) X dX6_faultReason_44 rfl ?_
          exact hj48_20 _ hf
    refine j_if_le (tgt := 27) (pc := 20) X dX6_faultReason_20 rfl (fun c24 => ?_) (fun c24 => ?_)
    · have hf := kT c24 hf
      refine j_iconst (pc := 27) X dX6_faultReason_27 kc_0 ?_
      exact hj28_18 _ hf
    · have hf := kF c24 hf
      refine j_iconst (pc := 23) X dX6_faultReason_23 kc_1 ?_
      refine j_goto (tgt := 28) (pc := 24) X dX6_faultReason_24 rfl ?_
      exact hj28_18 _ hf
theorem c_X6_faultReason {l : Launch} {D : va_G} {cI cS : ClassId} {ad : Nat → Nat} (N : Nat) (C : kS) (a1 : Int32) {r : Int32} (hf : f_X6_faultReason N C a1 = some r) : mI l yX6_faultReason wsX6_faultReason rm_X6_faultReason D cI cS (WC cI cS ad) C [.ref (ad 1), .int a1] r :=
  mI.of (by decide) rfl rfl (Nat.le_of_ble_eq_true rfl) (fun g X hR => t_X6_faultReason X  hR N a1  hf)
abbrev rm_X6_faultIndex : Room := { frames := 3, cells := 0, slots := 0, locals := 67 }
theorem lk_X6_faultIndex_0 : Cond.fieldLink RX6 20 "BlackBars$Text" "length" "I" ∈ wsX6_faultIndex := List.mem_of_getElem? (i := 1) rfl
theorem iw_X6_faultIndex_X6 : ∀ w ∈ wsX60, w ∈ wsX6_faultIndex := fun _ h => List.mem_cons_of_mem _ (List.mem_append_left _ (List.mem_append_right _ h))
theorem hd_X6_faultIndex : kHd yX6_faultIndex 0 := by decide +kernel
set_option maxHeartbeats 4000000 in
set_option maxRecDepth 100000 in
theorem lt_X6_faultIndex_2 {g : kG} {cI cS : ClassId} {ad : Nat → Nat} {C : kS} (X : Kx g cI cS cX6_faultIndex RX6 wsX6_faultIndex 2 rm_X6_faultIndex) {r : Int32} (hR : kRI g (WC cI cS ad) 2 cX6_faultIndex .int C r) (N : Nat)   (k26_0 : Option (Int32)) (hk26_0 : ∀ (_ : Unit), k26_0 = some r → J g (WC cI cS ad) 2 C 26 [some (.ref (ad 1)), none] []) : ∀ (n : Nat) (x2 : Int32), lp_X6_faultIndex_2 N C k26_0 n x2 = some r → J g (WC cI cS ad) 2 C 2 [some (.ref (ad 1)), some (.int x2)] [] := by
  intro n
  induction n with
  | zero =>
    intro x2 hf
    rw [lp_X6_faultIndex_2] at hf
    cases hf
  | succ n ih =>
    intro x2 hf
    rw [lp_X6_faultIndex_2] at hf
    refine j_iload_n (pc := 2) X dX6_faultIndex_2 rfl ?_
    refine j_aload_n (pc := 3) X dX6_faultIndex_3 rfl ?_
    refine j_get (pc := 4) X iw_X6_faultIndex_X6 (wc6 kd_1) rfl 1 (Nat.le_of_ble_eq_true rfl) lk_X6_faultIndex_0 (v := .int (C 1 1)) rfl dX6_faultIndex_4 ?_
    refine j_icmp_ge (tgt := 26) (pc := 7) X dX6_faultIndex_7 rfl (fun c3 => ?_) (fun c3 => ?_)
    · have hf := kT c3 hf
      refine j_weak (lv' := [some (.ref (ad 1)), none]) (And.intro rfl trivial) ?_
      exact hk26_0 () hf
    · have hf := kF c3 hf
      refine j_aload_n (pc := 10) X dX6_faultIndex_10 rfl ?_
      refine j_iload_n (pc := 11) X dX6_faultIndex_11 rfl ?_
      obtain ⟨r5, h4, hf⟩ := kB hf
      refine j_callI (pc := 12) X (c_X6_faultReason N C x2 h4) gX6_faultIndex_X6_faultReason rfl ⟨rfl, rfl⟩ rfl hd_X6_faultReason ⟨(Nat.le_of_ble_eq_true rfl), (Nat.le_of_ble_eq_true rfl)⟩ (wc6 kd_1) rfl rfl rfl (Nat.le_of_ble_eq_true rfl) rfl dX6_faultIndex_12 ?_
      refine j_if_eq (tgt := 20) (pc := 15) X dX6_faultIndex_15 rfl (fun c6 => ?_) (fun c6 => ?_)
      · have hf := kT c6 hf
        refine j_iinc (pc := 20) X dX6_faultIndex_20 rfl (v := x2 + 1) (by rw [kc_1]) (Nat.le_of_ble_eq_true rfl) (lv' := [some (.ref (ad 1)), some (.int (x2 + 1))]) rfl ?_
        refine j_goto (tgt := 2) (pc := 23) X dX6_faultIndex_23 rfl ?_
        exact ih _ hf
      · have hf := kF c6 hf
        refine j_iload_n (pc := 18) X dX6_faultIndex_18 rfl ?_
        exact j_retI hR dX6_faultIndex_19 hf
set_option maxHeartbeats 4000000 in
set_option maxRecDepth 100000 in
theorem t_X6_faultIndex {g : kG} {cI cS : ClassId} {ad : Nat → Nat} {C : kS} (X : Kx g cI cS cX6_faultIndex RX6 wsX6_faultIndex 2 rm_X6_faultIndex) {r : Int32} (hR : kRI g (WC cI cS ad) 2 cX6_faultIndex .int C r) (N : Nat)   (hf : f_X6_faultIndex N C = some r) : J g (WC cI cS ad) 2 C 0 [some (.ref (ad 1)), none] [] := by
  unfold f_X6_faultIndex at hf
  refine j_iconst (pc := 0) X dX6_faultIndex_0 kc_0 ?_
  refine j_istore_n (pc := 1) X dX6_faultIndex_1 (Nat.le_of_ble_eq_true rfl) (lv' := [some (.ref (ad 1)), some (.int 0)]) rfl ?_
  obtain ⟨k26_0, ek26_0, hf⟩ := jn_s hf
  have hk26_0 : ∀ (_ : Unit), k26_0 = some r → J g (WC cI cS ad) 2 C 26 [some (.ref (ad 1)), none] [] := by
    intro _ hf
    have hf := jE0 ek26_0 hf
    refine j_iconst (pc := 26) X dX6_faultIndex_26 kc_m1 ?_
    exact j_retI hR dX6_faultIndex_27 hf
  exact lt_X6_faultIndex_2 X hR N   k26_0 hk26_0 N _ hf
theorem c_X6_faultIndex {l : Launch} {D : va_G} {cI cS : ClassId} {ad : Nat → Nat} (N : Nat) (C : kS)  {r : Int32} (hf : f_X6_faultIndex N C = some r) : mI l yX6_faultIndex wsX6_faultIndex rm_X6_faultIndex D cI cS (WC cI cS ad) C [.ref (ad 1)] r :=
  mI.of (by decide) rfl rfl (Nat.le_of_ble_eq_true rfl) (fun g X hR => t_X6_faultIndex X  hR N   hf)
abbrev rm_X6_isOneWord : Room := { frames := 1, cells := 0, slots := 0, locals := 21 }
theorem lk_X6_isOneWord_0 : Cond.fieldLink RX6 20 "BlackBars$Text" "length" "I" ∈ wsX6_isOneWord := List.mem_of_getElem? (i := 1) rfl
theorem iw_X6_isOneWord_X6 : ∀ w ∈ wsX60, w ∈ wsX6_isOneWord := fun _ h => List.mem_cons_of_mem _ (List.mem_append_left _ (List.mem_append_right _ h))
theorem lk_X6_isOneWord_1 : Cond.fieldLink RX6 14 "BlackBars$Text" "characters" "LBlackBars$Row;" ∈ wsX6_isOneWord := List.mem_of_getElem? (i := 2) rfl
theorem lk_X6_isOneWord_9 : Cond.initialized RX8 ∈ wsX6_isOneWord := List.mem_of_getElem? (i := 10) rfl
theorem lk_X6_isOneWord_8 : Cond.static yX8_isLetter ∈ wsX6_isOneWord := List.mem_of_getElem? (i := 9) rfl
theorem hd_X6_isOneWord : kHd yX6_isOneWord 1 := by decide +kernel
set_option maxHeartbeats 4000000 in
set_option maxRecDepth 100000 in
theorem lt_X6_isOneWord_20 {g : kG} {cI cS : ClassId} {ad : Nat → Nat} {C : kS} (X : Kx g cI cS cX6_isOneWord RX6 wsX6_isOneWord 3 rm_X6_isOneWord) {r : Int32} (hR : kRI g (WC cI cS ad) 3 cX6_isOneWord .boolean C r) (N : Nat) (a1 : Int32)  (k50_2 : Option (Int32)) (hk50_2 : ∀ (_ : Unit), k50_2 = some r → J g (WC cI cS ad) 3 C 50 [some (.ref (ad 1)), some (.int a1), none] []) : ∀ (n : Nat) (x4 : Int32), lp_X6_isOneWord_20 N C k50_2 n x4 = some r → J g (WC cI cS ad) 3 C 20 [some (.ref (ad 1)), some (.int a1), some (.int x4)] [] := by
  intro n
  induction n with
  | zero =>
    intro x4 hf
    rw [lp_X6_isOneWord_20] at hf
    cases hf
  | succ n ih =>
    intro x4 hf
    rw [lp_X6_isOneWord_20] at hf
    refine j_iload_n (pc := 20) X dX6_isOneWord_20 rfl ?_
    refine j_aload_n (pc := 21) X dX6_isOneWord_21 rfl ?_
    refine j_get (pc := 22) X iw_X6_isOneWord_X6 (wc6 kd_1) rfl 1 (Nat.le_of_ble_eq_true rfl) lk_X6_isOneWord_0 (v := .int (C 1 1)) rfl dX6_isOneWord_22 ?_
    refine j_icmp_ge (tgt := 50) (pc := 25) X dX6_isOneWord_25 rfl (fun c5 => ?_) (fun c5 => ?_)
    · have hf := kT c5 hf
      refine j_weak (lv' := [some (.ref (ad 1)), some (.int a1), none]) (And.intro rfl (And.intro rfl trivial)) ?_
      exact hk50_2 () hf
    · have hf := kF c5 hf
      refine j_aload_n (pc := 28) X dX6_isOneWord_28 rfl ?_
      refine j_get (pc := 29) X iw_X6_isOneWord_X6 (wc6 kd_1) rfl 0 (Nat.le_of_ble_eq_true rfl) lk_X6_isOneWord_1 (v := .ref (ad 2)) rfl dX6_isOneWord_29 ?_
      refine j_iload_n (pc := 32) X dX6_isOneWord_32 rfl ?_
      obtain ⟨r7, h6, hf⟩ := kB hf
      refine j_callI (pc := 33) X (c_X3_at N C 2 kd_2 x4 h6) gX6_isOneWord_X3_at rfl ⟨rfl, rfl⟩ rfl hd_X3_at ⟨(Nat.le_of_ble_eq_true rfl), (Nat.le_of_ble_eq_true rfl)⟩ (wc3 kd_2) rfl rfl rfl (Nat.le_of_ble_eq_true rfl) rfl dX6_isOneWord_33 ?_
      obtain ⟨r9, h8, hf⟩ := kB hf
      refine j_callN (pc := 36) X (c_X8_isLetter N r7 h8) ggX6_isOneWord_X8_isLetter rfl ⟨rfl, rfl⟩ X.2.2.2.2.2.1.2.2.1 lk_X6_isOneWord_9 lk_X6_isOneWord_8 hd_X8_isLetter ⟨(Nat.le_of_ble_eq_true rfl), (Nat.le_of_ble_eq_true rfl)⟩ rfl (Nat.le_of_ble_eq_true rfl) rfl dX6_isOneWord_36 ?_
      refine j_if_ne (tgt := 44) (pc := 39) X dX6_isOneWord_39 rfl (fun c10 => ?_) (fun c10 => ?_)
      · have hf := kF c10 hf
        refine j_iinc (pc := 44) X dX6_isOneWord_44 rfl (v := x4 + 1) (by rw [kc_1]) (Nat.le_of_ble_eq_true rfl) (lv' := [some (.ref (ad 1)), some (.int a1), some (.int (x4 + 1))]) rfl ?_
        refine j_goto (tgt := 20) (pc := 47) X dX6_isOneWord_47 rfl ?_
        exact ih _ hf
      · have hf := kT c10 hf
        refine j_iconst (pc := 42) X dX6_isOneWord_42 kc_0 ?_
        exact j_retB hR dX6_isOneWord_43 hf
set_option maxHeartbeats 4000000 in
set_option maxRecDepth 100000 in
theorem t_X6_isOneWord {g : kG} {cI cS : ClassId} {ad : Nat → Nat} {C : kS} (X : Kx g cI cS cX6_isOneWord RX6 wsX6_isOneWord 3 rm_X6_isOneWord) {r : Int32} (hR : kRI g (WC cI cS ad) 3 cX6_isOneWord .boolean C r) (N : Nat) (a1 : Int32)  (hf : f_X6_isOneWord N C a1 = some r) : J g (WC cI cS ad) 3 C 0 [some (.ref (ad 1)), some (.int a1), none] [] := by
  unfold f_X6_isOneWord at hf
  refine j_aload_n (pc := 0) X dX6_isOneWord_0 rfl ?_
  refine j_get (pc := 1) X iw_X6_isOneWord_X6 (wc6 kd_1) rfl 1 (Nat.le_of_ble_eq_true rfl) lk_X6_isOneWord_0 (v := .int (C 1 1)) rfl dX6_isOneWord_1 ?_
  refine j_iconst (pc := 4) X dX6_isOneWord_4 kc_1 ?_
  refine j_icmp_lt (tgt := 16) (pc := 5) X dX6_isOneWord_5 rfl (fun c1 => ?_) (fun c1 => ?_)
  · have hf := kT c1 hf
    refine j_iconst (pc := 16) X dX6_isOneWord_16 kc_0 ?_
    exact j_retB hR dX6_isOneWord_17 hf
  · have hf := kF c1 hf
    refine j_aload_n (pc := 8) X dX6_isOneWord_8 rfl ?_
    refine j_get (pc := 9) X iw_X6_isOneWord_X6 (wc6 kd_1) rfl 1 (Nat.le_of_ble_eq_true rfl) lk_X6_isOneWord_0 (v := .int (C 1 1)) rfl dX6_isOneWord_9 ?_
    refine j_iload_n (pc := 12) X dX6_isOneWord_12 rfl ?_
    refine j_icmp_le (tgt := 18) (pc := 13) X dX6_isOneWord_13 rfl (fun c2 => ?_) (fun c2 => ?_)
    · have hf := kT c2 hf
      refine j_iconst (pc := 18) X dX6_isOneWord_18 kc_0 ?_
      refine j_istore_n (pc := 19) X dX6_isOneWord_19 (Nat.le_of_ble_eq_true rfl) (lv' := [some (.ref (ad 1)), some (.int a1), some (.int 0)]) rfl ?_
      obtain ⟨k50_2, ek50_2, hf⟩ := jn_s hf
      have hk50_2 : ∀ (_ : Unit), k50_2 = some r → J g (WC cI cS ad) 3 C 50 [some (.ref (ad 1)), some (.int a1), none] [] := by
        intro _ hf
        have hf := jE0 ek50_2 hf
        refine j_iconst (pc := 50) X dX6_isOneWord_50 kc_1 ?_
        exact j_retB hR dX6_isOneWord_51 hf
      exact lt_X6_isOneWord_20 X hR N a1   k50_2 hk50_2 N _ hf
    · have hf := kF c2 hf
      refine j_iconst (pc := 16) X dX6_isOneWord_16 kc_0 ?_
      exact j_retB hR dX6_isOneWord_17 hf
theorem c_X6_isOneWord {l : Launch} {D : va_G} {cI cS : ClassId} {ad : Nat → Nat} (N : Nat) (C : kS) (a1 : Int32) {r : Int32} (hf : f_X6_isOneWord N C a1 = some r) : mI l yX6_isOneWord wsX6_isOneWord rm_X6_isOneWord D cI cS (WC cI cS ad) C [.ref (ad 1), .int a1] r :=
  mI.of (by decide) rfl rfl (Nat.le_of_ble_eq_true rfl) (fun g X hR => t_X6_isOneWord X  hR N a1  hf)
abbrev rm_X6_size : Room := { frames := 0, cells := 0, slots := 0, locals := 0 }
theorem lk_X6_size_0 : Cond.fieldLink RX6 20 "BlackBars$Text" "length" "I" ∈ wsX6_size := List.mem_of_getElem? (i := 1) rfl
theorem iw_X6_size_X6 : ∀ w ∈ wsX60, w ∈ wsX6_size := fun _ h => List.mem_cons_of_mem _ (List.mem_append_right _ h)
theorem hd_X6_size : kHd yX6_size 0 := by decide +kernel
set_option maxHeartbeats 4000000 in
set_option maxRecDepth 100000 in
theorem t_X6_size {g : kG} {cI cS : ClassId} {ad : Nat → Nat} {C : kS} (X : Kx g cI cS cX6_size RX6 wsX6_size 1 rm_X6_size) {r : Int32} (hR : kRI g (WC cI cS ad) 1 cX6_size .int C r) (N : Nat)   (hf : f_X6_size N C = some r) : J g (WC cI cS ad) 1 C 0 [some (.ref (ad 1))] [] := by
  unfold f_X6_size at hf
  refine j_aload_n (pc := 0) X dX6_size_0 rfl ?_
  refine j_get (pc := 1) X iw_X6_size_X6 (wc6 kd_1) rfl 1 (Nat.le_of_ble_eq_true rfl) lk_X6_size_0 (v := .int (C 1 1)) rfl dX6_size_1 ?_
  exact j_retI hR dX6_size_4 hf
theorem c_X6_size {l : Launch} {D : va_G} {cI cS : ClassId} {ad : Nat → Nat} (N : Nat) (C : kS)  {r : Int32} (hf : f_X6_size N C = some r) : mI l yX6_size wsX6_size rm_X6_size D cI cS (WC cI cS ad) C [.ref (ad 1)] r :=
  mI.of (by decide) rfl rfl (Nat.le_of_ble_eq_true rfl) (fun g X hR => t_X6_size X  hR N   hf)
abbrev rm_X7_addLetter : Room := { frames := 2, cells := 0, slots := 0, locals := 42 }
theorem lk_X7_addLetter_0 : Cond.fieldLink RX7 28 "BlackBars$Words" "size" "I" ∈ wsX7_addLetter := List.mem_of_getElem? (i := 1) rfl
theorem iw_X7_addLetter_X7 : ∀ w ∈ wsX70, w ∈ wsX7_addLetter := fun _ h => List.mem_cons_of_mem _ (List.mem_append_left _ (List.mem_append_right _ h))
theorem lk_X7_addLetter_1 : Cond.fieldLink RX7 13 "BlackBars$Words" "mostLetters" "I" ∈ wsX7_addLetter := List.mem_of_getElem? (i := 2) rfl
theorem lk_X7_addLetter_2 : Cond.fieldLink RX7 21 "BlackBars$Words" "letters" "LBlackBars$Row;" ∈ wsX7_addLetter := List.mem_of_getElem? (i := 3) rfl
theorem lk_X7_addLetter_3 : Cond.fieldLink RX7 25 "BlackBars$Words" "lengths" "LBlackBars$Row;" ∈ wsX7_addLetter := List.mem_of_getElem? (i := 4) rfl
theorem hd_X7_addLetter : kHd yX7_addLetter 1 := by decide +kernel
set_option maxHeartbeats 4000000 in
set_option maxRecDepth 100000 in
theorem t_X7_addLetter {g : kG} {cI cS : ClassId} {ad : Nat → Nat} (X : Kx g cI cS cX7_addLetter RX7 wsX7_addLetter 4 rm_X7_addLetter) {Cr : kS} (hI : kInj 132 ad) (Y : Kw g (WC cI cS ad) (kAd 132 ad)) (hR : kRV g (WC cI cS ad) 4 cX7_addLetter Cr) (N : Nat) (C : kS) (k : Nat) (a1 : Int32) (hk : kd k = 7) (hf : f_X7_addLetter N C k a1 = some Cr) : J g (WC cI cS ad) 4 C 0 [some (.ref (ad k)), some (.int a1), none, none] [] := by
  unfold f_X7_addLetter at hf
  refine j_aload_n (pc := 0) X dX7_addLetter_0 rfl ?_
  refine j_get (pc := 1) X iw_X7_addLetter_X7 (wc7 hk) rfl 4 (Nat.le_of_ble_eq_true rfl) lk_X7_addLetter_0 (v := .int (C k 4)) rfl dX7_addLetter_1 ?_
  refine j_iconst (pc := 4) X dX7_addLetter_4 kc_1 ?_
  refine j_isub (pc := 5) X dX7_addLetter_5 ?_
  refine j_istore_n (pc := 6) X dX7_addLetter_6 (Nat.le_of_ble_eq_true rfl) (lv' := [some (.ref (ad k)), some (.int a1), some (.int ((C k 4) - 1)), none]) rfl ?_
  refine j_aload_n (pc := 7) X dX7_addLetter_7 rfl ?_
  refine j_iload_n (pc := 8) X dX7_addLetter_8 rfl ?_
  obtain ⟨r2, h1, hf⟩ := kB hf
  refine j_callI (pc := 9) X (c_X7_lengthOf N C k hk ((C k 4) - 1) h1) gX7_addLetter_X7_lengthOf rfl ⟨rfl, rfl⟩ rfl hd_X7_lengthOf ⟨(Nat.le_of_ble_eq_true rfl), (Nat.le_of_ble_eq_true rfl)⟩ (wc7 hk) rfl rfl rfl (Nat.le_of_ble_eq_true rfl) rfl dX7_addLetter_9 ?_
  refine j_istore_n (pc := 12) X dX7_addLetter_12 (Nat.le_of_ble_eq_true rfl) (lv' := [some (.ref (ad k)), some (.int a1), some (.int ((C k 4) - 1)), some (.int r2)]) rfl ?_
  refine j_iload_n (pc := 13) X dX7_addLetter_13 rfl ?_
  refine j_if_lt (tgt := 52) (pc := 14) X dX7_addLetter_14 rfl (fun c3 => ?_) (fun c3 => ?_)
  · have hf := kT c3 hf
    exact j_retV hR dX7_addLetter_52 hf
  · have hf := kF c3 hf
    refine j_iload_n (pc := 17) X dX7_addLetter_17 rfl ?_
    refine j_aload_n (pc := 18) X dX7_addLetter_18 rfl ?_
    refine j_get (pc := 19) X iw_X7_addLetter_X7 (wc7 hk) rfl 1 (Nat.le_of_ble_eq_true rfl) lk_X7_addLetter_1 (v := .int (C k 1)) rfl dX7_addLetter_19 ?_
    refine j_icmp_ge (tgt := 52) (pc := 22) X dX7_addLetter_22 rfl (fun c4 => ?_) (fun c4 => ?_)
    · have hf := kT c4 hf
      exact j_retV hR dX7_addLetter_52 hf
    · have hf := kF c4 hf
      refine j_aload_n (pc := 25) X dX7_addLetter_25 rfl ?_
      refine j_get (pc := 26) X iw_X7_addLetter_X7 (wc7 hk) rfl 2 (Nat.le_of_ble_eq_true rfl) lk_X7_addLetter_2 (v := .ref (ad (k + 1))) rfl dX7_addLetter_26 ?_
      refine j_iload_n (pc := 29) X dX7_addLetter_29 rfl ?_
      refine j_aload_n (pc := 30) X dX7_addLetter_30 rfl ?_
      refine j_get (pc := 31) X iw_X7_addLetter_X7 (wc7 hk) rfl 1 (Nat.le_of_ble_eq_true rfl) lk_X7_addLetter_1 (v := .int (C k 1)) rfl dX7_addLetter_31 ?_
      refine j_imul (pc := 34) X dX7_addLetter_34 ?_
      refine j_iload_n (pc := 35) X dX7_addLetter_35 rfl ?_
      refine j_iadd (pc := 36) X dX7_addLetter_36 ?_
      refine j_iload_n (pc := 37) X dX7_addLetter_37 rfl ?_
      obtain ⟨C6, h5, hf⟩ := kB hf
      refine j_callV (pc := 38) X Y (c_X3_put hI N C (k + 1) (kd7_1 hk) ((((C k 4) - 1) * (C k 1)) + r2) a1 h5) gX7_addLetter_X3_put rfl ⟨rfl, rfl⟩ rfl hd_X3_put ⟨(Nat.le_of_ble_eq_true rfl), (Nat.le_of_ble_eq_true rfl)⟩ (wc3 (kd7_1 hk)) rfl rfl rfl (Nat.le_of_ble_eq_true rfl) rfl dX7_addLetter_38 ?_
      refine j_aload_n (pc := 41) X dX7_addLetter_41 rfl ?_
      refine j_get (pc := 42) X iw_X7_addLetter_X7 (wc7 hk) rfl 3 (Nat.le_of_ble_eq_true rfl) lk_X7_addLetter_3 (v := .ref (ad (k + 3))) rfl dX7_addLetter_42 ?_
      refine j_iload_n (pc := 45) X dX7_addLetter_45 rfl ?_
      refine j_iload_n (pc := 46) X dX7_addLetter_46 rfl ?_
      refine j_iconst (pc := 47) X dX7_addLetter_47 kc_1 ?_
      refine j_iadd (pc := 48) X dX7_addLetter_48 ?_
      obtain ⟨C8, h7, hf⟩ := kB hf
      refine j_callV (pc := 49) X Y (c_X3_put hI N C6 (k + 3) (kd7_3 hk) ((C k 4) - 1) (r2 + 1) h7) gX7_addLetter_X3_put rfl ⟨rfl, rfl⟩ rfl hd_X3_put ⟨(Nat.le_of_ble_eq_true rfl), (Nat.le_of_ble_eq_true rfl)⟩ (wc3 (kd7_3 hk)) rfl rfl rfl (Nat.le_of_ble_eq_true rfl) rfl dX7_addLetter_49 ?_
      exact j_retV hR dX7_addLetter_52 hf
theorem c_X7_addLetter {l : Launch} {D : va_G} {cI cS : ClassId} {ad : Nat → Nat} (hI : kInj 132 ad) (N : Nat) (C : kS) (k : Nat) (hk : kd k = 7) (a1 : Int32) {Cr : kS} (hf : f_X7_addLetter N C k a1 = some Cr) : mV l yX7_addLetter wsX7_addLetter rm_X7_addLetter D cI cS (WC cI cS ad) (kAd 132 ad) C [.ref (ad k), .int a1] Cr :=
  mV.of (by decide) rfl rfl (Nat.le_of_ble_eq_true rfl) (WC_D hI) (fun g X Y hR => t_X7_addLetter X hI Y hR N C k a1 hk hf)
abbrev rm_X7_beginWord : Room := { frames := 1, cells := 0, slots := 0, locals := 22 }
theorem lk_X7_beginWord_0 : Cond.fieldLink RX7 28 "BlackBars$Words" "size" "I" ∈ wsX7_beginWord := List.mem_of_getElem? (i := 1) rfl
theorem iw_X7_beginWord_X7 : ∀ w ∈ wsX70, w ∈ wsX7_beginWord := fun _ h => List.mem_cons_of_mem _ (List.mem_append_left _ (List.mem_append_right _ h))
theorem lk_X7_beginWord_1 : Cond.fieldLink RX7 7 "BlackBars$Words" "mostWords" "I" ∈ wsX7_beginWord := List.mem_of_getElem? (i := 2) rfl
theorem lk_X7_beginWord_2 : Cond.fieldLink RX7 25 "BlackBars$Words" "lengths" "LBlackBars$Row;" ∈ wsX7_beginWord := List.mem_of_getElem? (i := 3) rfl
theorem hd_X7_beginWord : kHd yX7_beginWord 0 := by decide +kernel
set_option maxHeartbeats 4000000 in
set_option maxRecDepth 100000 in
theorem t_X7_beginWord {g : kG} {cI cS : ClassId} {ad : Nat → Nat} (X : Kx g cI cS cX7_beginWord RX7 wsX7_beginWord 1 rm_X7_beginWord) {Cr : kS} (hI : kInj 132 ad) (Y : Kw g (WC cI cS ad) (kAd 132 ad)) (hR : kRV g (WC cI cS ad) 1 cX7_beginWord Cr) (N : Nat) (C : kS) (k : Nat) (hk : kd k = 7) (hf : f_X7_beginWord N C k = some Cr) : J g (WC cI cS ad) 1 C 0 [some (.ref (ad k))] [] := by
  unfold f_X7_beginWord at hf
  refine j_aload_n (pc := 0) X dX7_beginWord_0 rfl ?_
  refine j_get (pc := 1) X iw_X7_beginWord_X7 (wc7 hk) rfl 4 (Nat.le_of_ble_eq_true rfl) lk_X7_beginWord_0 (v := .int (C k 4)) rfl dX7_beginWord_1 ?_
  refine j_aload_n (pc := 4) X dX7_beginWord_4 rfl ?_
  refine j_get (pc := 5) X iw_X7_beginWord_X7 (wc7 hk) rfl 0 (Nat.le_of_ble_eq_true rfl) lk_X7_beginWord_1 (v := .int (C k 0)) rfl dX7_beginWord_5 ?_
  refine j_icmp_ge (tgt := 33) (pc := 8) X dX7_beginWord_8 rfl (fun c1 => ?_) (fun c1 => ?_)
  · have hf := kT c1 hf
    exact j_retV hR dX7_beginWord_33 hf
  · have hf := kF c1 hf
    refine j_aload_n (pc := 11) X dX7_beginWord_11 rfl ?_
    refine j_get (pc := 12) X iw_X7_beginWord_X7 (wc7 hk) rfl 3 (Nat.le_of_ble_eq_true rfl) lk_X7_beginWord_2 (v := .ref (ad (k + 3))) rfl dX7_beginWord_12 ?_
    refine j_aload_n (pc := 15) X dX7_beginWord_15 rfl ?_
    refine j_get (pc := 16) X iw_X7_beginWord_X7 (wc7 hk) rfl 4 (Nat.le_of_ble_eq_true rfl) lk_X7_beginWord_0 (v := .int (C k 4)) rfl dX7_beginWord_16 ?_
    refine j_iconst (pc := 19) X dX7_beginWord_19 kc_0 ?_
    obtain ⟨C3, h2, hf⟩ := kB hf
    refine j_callV (pc := 20) X Y (c_X3_put hI N C (k + 3) (kd7_3 hk) (C k 4) 0 h2) gX7_beginWord_X3_put rfl ⟨rfl, rfl⟩ rfl hd_X3_put ⟨(Nat.le_of_ble_eq_true rfl), (Nat.le_of_ble_eq_true rfl)⟩ (wc3 (kd7_3 hk)) rfl rfl rfl (Nat.le_of_ble_eq_true rfl) rfl dX7_beginWord_20 ?_
    refine j_aload_n (pc := 23) X dX7_beginWord_23 rfl ?_
    refine j_dup (pc := 24) X dX7_beginWord_24 rfl ?_
    refine j_get (pc := 25) X iw_X7_beginWord_X7 (wc7 hk) rfl 4 (Nat.le_of_ble_eq_true rfl) lk_X7_beginWord_0 (v := .int (C3 k 4)) rfl dX7_beginWord_25 ?_
    refine j_iconst (pc := 28) X dX7_beginWord_28 kc_1 ?_
    refine j_iadd (pc := 29) X dX7_beginWord_29 ?_
    obtain ⟨C4, eC4, hf⟩ := jn_s hf
    refine j_put (C' := C4) (pc := 30) X Y iw_X7_beginWord_X7 tyX7 tyX7_ok nmX7 (wc7 hk) rfl 4 (Nat.le_of_ble_eq_true rfl) lk_X7_beginWord_0 rfl (tyX7_ok 4 (Nat.le_of_ble_eq_true rfl)) (Nat.le_of_ble_eq_true rfl) dX7_beginWord_30 (by rw [eC4]; exact sc7_4 hk _) ?_
    exact j_retV hR dX7_beginWord_33 hf
theorem c_X7_beginWord {l : Launch} {D : va_G} {cI cS : ClassId} {ad : Nat → Nat} (hI : kInj 132 ad) (N : Nat) (C : kS) (k : Nat) (hk : kd k = 7) {Cr : kS} (hf : f_X7_beginWord N C k = some Cr) : mV l yX7_beginWord wsX7_beginWord rm_X7_beginWord D cI cS (WC cI cS ad) (kAd 132 ad) C [.ref (ad k)] Cr :=
  mV.of (by decide) rfl rfl (Nat.le_of_ble_eq_true rfl) (WC_D hI) (fun g X Y hR => t_X7_beginWord X hI Y hR N C k hk hf)
abbrev rm_X7_addWordsOf : Room := { frames := 3, cells := 0, slots := 0, locals := 65 }
theorem lk_X7_addWordsOf_18 : Cond.initialized RX8 ∈ wsX7_addWordsOf := List.mem_of_getElem? (i := 19) rfl
theorem lk_X7_addWordsOf_17 : Cond.static yX8_isLetter ∈ wsX7_addWordsOf := List.mem_of_getElem? (i := 18) rfl
theorem hd_X7_addWordsOf : kHd yX7_addWordsOf 1 := by decide +kernel
set_option maxHeartbeats 4000000 in
set_option maxRecDepth 100000 in
theorem lt_X7_addWordsOf_4 {g : kG} {cI cS : ClassId} {ad : Nat → Nat} (X : Kx g cI cS cX7_addWordsOf RX7 wsX7_addWordsOf 4 rm_X7_addWordsOf) {Cr : kS} (hI : kInj 132 ad) (Y : Kw g (WC cI cS ad) (kAd 132 ad)) (hR : kRV g (WC cI cS ad) 4 cX7_addWordsOf Cr) (N : Nat) (k : Nat) (hk : kd k = 7) (k53_1 : kS → Option (kS)) (hk53_1 : ∀ (C1 : kS), k53_1 C1 = some Cr → J g (WC cI cS ad) 4 C1 53 [some (.ref (ad k)), some (.ref (ad 1)), none, none] []) : ∀ (n : Nat) (x3 : Int32) (x4 : Int32) (C5 : kS), lp_X7_addWordsOf_4 N k k53_1 n x3 x4 C5 = some Cr → J g (WC cI cS ad) 4 C5 4 [some (.ref (ad k)), some (.ref (ad 1)), some (.int x3), some (.int x4)] [] := by
  intro n
  induction n with
  | zero =>
    intro x3 x4 C5 hf
    rw [lp_X7_addWordsOf_4] at hf
    cases hf
  | succ n ih =>
    intro x3 x4 C5 hf
    rw [lp_X7_addWordsOf_4] at hf
    refine j_iload_n (pc := 4) X dX7_addWordsOf_4 rfl ?_
    refine j_aload_n (pc := 5) X dX7_addWordsOf_5 rfl ?_
    obtain ⟨r7, h6, hf⟩ := kB hf
    refine j_callI (pc := 6) X (c_X6_size N C5  h6) gX7_addWordsOf_X6_size rfl ⟨rfl, rfl⟩ rfl hd_X6_size ⟨(Nat.le_of_ble_eq_true rfl), (Nat.le_of_ble_eq_true rfl)⟩ (wc6 kd_1) rfl rfl rfl (Nat.le_of_ble_eq_true rfl) rfl dX7_addWordsOf_6 ?_
    refine j_icmp_ge (tgt := 53) (pc := 9) X dX7_addWordsOf_9 rfl (fun c8 => ?_) (fun c8 => ?_)
    · have hf := kT c8 hf
      refine j_weak (lv' := [some (.ref (ad k)), some (.ref (ad 1)), none, none]) (And.intro rfl (And.intro rfl trivial)) ?_
      exact hk53_1 _ hf
    · have hf := kF c8 hf
      refine j_aload_n (pc := 12) X dX7_addWordsOf_12 rfl ?_
      refine j_iload_n (pc := 13) X dX7_addWordsOf_13 rfl ?_
      obtain ⟨r10, h9, hf⟩ := kB hf
      refine j_callI (pc := 14) X (c_X6_at N C5 x4 h9) gX7_addWordsOf_X6_at rfl ⟨rfl, rfl⟩ rfl hd_X6_at ⟨(Nat.le_of_ble_eq_true rfl), (Nat.le_of_ble_eq_true rfl)⟩ (wc6 kd_1) rfl rfl rfl (Nat.le_of_ble_eq_true rfl) rfl dX7_addWordsOf_14 ?_
      obtain ⟨r12, h11, hf⟩ := kB hf
      refine j_callN (pc := 17) X (c_X8_isLetter N r10 h11) ggX7_addWordsOf_X8_isLetter rfl ⟨rfl, rfl⟩ X.2.2.2.2.2.1.2.2.2 lk_X7_addWordsOf_18 lk_X7_addWordsOf_17 hd_X8_isLetter ⟨(Nat.le_of_ble_eq_true rfl), (Nat.le_of_ble_eq_true rfl)⟩ rfl (Nat.le_of_ble_eq_true rfl) rfl dX7_addWordsOf_17 ?_
      obtain ⟨j47_14, ej47_14, hf⟩ := jn_s hf
      have hj47_14 : ∀ (x13 : Int32) (C14 : kS), j47_14 x13 C14 = some Cr → J g (WC cI cS ad) 4 C14 47 [some (.ref (ad k)), some (.ref (ad 1)), some (.int x13), some (.int x4)] [] := by
        intro x13 C14 hf
        have hf := jE2 ej47_14 hf
        refine j_iinc (pc := 47) X dX7_addWordsOf_47 rfl (v := x4 + 1) (by rw [kc_1]) (Nat.le_of_ble_eq_true rfl) (lv' := [some (.ref (ad k)), some (.ref (ad 1)), some (.int x13), some (.int (x4 + 1))]) rfl ?_
        refine j_goto (tgt := 4) (pc := 50) X dX7_addWordsOf_50 rfl ?_
        exact ih _ _ _ hf
      refine j_if_ne (tgt := 28) (pc := 20) X dX7_addWordsOf_20 rfl (fun c16 => ?_) (fun c16 => ?_)
      · have hf := kF c16 hf
        refine j_iload_n (pc := 28) X dX7_addWordsOf_28 rfl ?_
        obtain ⟨j36_17, ej36_17, hf⟩ := jn_s hf
        have hj36_17 : ∀ (C17 : kS), j36_17 C17 = some Cr → J g (WC cI cS ad) 4 C17 36 [some (.ref (ad k)), some (.ref (ad 1)), some (.int x3), some (.int x4)] [] := by
          intro C17 hf
          have hf := jE1 ej36_17 hf
          refine j_iconst (pc := 36) X dX7_addWordsOf_36 kc_1 ?_
          refine j_istore_n (pc := 37) X dX7_addWordsOf_37 (Nat.le_of_ble_eq_true rfl) (lv' := [some (.ref (ad k)), some (.ref (ad 1)), some (.int 1), some (.int x4)]) rfl ?_
          refine j_aload_n (pc := 38) X dX7_addWordsOf_38 rfl ?_
          refine j_aload_n (pc := 39) X dX7_addWordsOf_39 rfl ?_
          refine j_iload_n (pc := 40) X dX7_addWordsOf_40 rfl ?_
          obtain ⟨r20, h19, hf⟩ := kB hf
          refine j_callI (pc := 41) X (c_X6_at N C17 x4 h19) gX7_addWordsOf_X6_at rfl ⟨rfl, rfl⟩ rfl hd_X6_at ⟨(Nat.le_of_ble_eq_true rfl), (Nat.le_of_ble_eq_true rfl)⟩ (wc6 kd_1) rfl rfl rfl (Nat.le_of_ble_eq_true rfl) rfl dX7_addWordsOf_41 ?_
          obtain ⟨C22, h21, hf⟩ := kB hf
          refine j_callV (pc := 44) X Y (c_X7_addLetter hI N C17 k hk r20 h21) gX7_addWordsOf_X7_addLetter rfl ⟨rfl, rfl⟩ rfl hd_X7_addLetter ⟨(Nat.le_of_ble_eq_true rfl), (Nat.le_of_ble_eq_true rfl)⟩ (wc7 hk) rfl rfl rfl (Nat.le_of_ble_eq_true rfl) rfl dX7_addWordsOf_44 ?_
          exact hj47_14 _ _ hf
        refine j_if_ne (tgt := 36) (pc := 29) X dX7_addWordsOf_29 rfl (fun c23 => ?_) (fun c23 => ?_)
        · have hf := kF c23 hf
          exact hj36_17 _ hf
        · have hf := kT c23 hf
          refine j_aload_n (pc := 32) X dX7_addWordsOf_32 rfl ?_
          obtain ⟨C25, h24, hf⟩ := kB hf
          refine j_callV (pc := 33) X Y (c_X7_beginWord hI N C5 k hk h24) gX7_addWordsOf_X7_beginWord rfl ⟨rfl, rfl⟩ rfl hd_X7_beginWord ⟨(Nat.le_of_ble_eq_true rfl), (Nat.le_of_ble_eq_true rfl)⟩ (wc7 hk) rfl rfl rfl (Nat.le_of_ble_eq_true rfl) rfl dX7_addWordsOf_33 ?_
          exact hj36_17 _ hf
      · have hf := kT c16 hf
        refine j_iconst (pc := 23) X dX7_addWordsOf_23 kc_0 ?_
        refine j_istore_n (pc := 24) X dX7_addWordsOf_24 (Nat.le_of_ble_eq_true rfl) (lv' := [some (.ref (ad k)), some (.ref (ad 1)), some (.int 0), some (.int x4)]) rfl ?_
        refine j_goto (tgt := 47) (pc := 25) X dX7_addWordsOf_25 rfl ?_
        exact hj47_14 _ _ hf
set_option maxHeartbeats 4000000 in
set_option maxRecDepth 100000 in
theorem t_X7_addWordsOf {g : kG} {cI cS : ClassId} {ad : Nat → Nat} (X : Kx g cI cS cX7_addWordsOf RX7 wsX7_addWordsOf 4 rm_X7_addWordsOf) {Cr : kS} (hI : kInj 132 ad) (Y : Kw g (WC cI cS ad) (kAd 132 ad)) (hR : kRV g (WC cI cS ad) 4 cX7_addWordsOf Cr) (N : Nat) (C : kS) (k : Nat) (hk : kd k = 7) (hf : f_X7_addWordsOf N C k = some Cr) : J g (WC cI cS ad) 4 C 0 [some (.ref (ad k)), some (.ref (ad 1)), none, none] [] := by
  unfold f_X7_addWordsOf at hf
  refine j_iconst (pc := 0) X dX7_addWordsOf_0 kc_0 ?_
  refine j_istore_n (pc := 1) X dX7_addWordsOf_1 (Nat.le_of_ble_eq_true rfl) (lv' := [some (.ref (ad k)), some (.ref (ad 1)), some (.int 0), none]) rfl ?_
  refine j_iconst (pc := 2) X dX7_addWordsOf_2 kc_0 ?_
  refine j_istore_n (pc := 3) X dX7_addWordsOf_3 (Nat.le_of_ble_eq_true rfl) (lv' := [some (.ref (ad k)), some (.ref (ad 1)), some (.int 0), some (.int 0)]) rfl ?_
  obtain ⟨k53_1, ek53_1, hf⟩ := jn_s hf
  have hk53_1 : ∀ (C1 : kS), k53_1 C1 = some Cr → J g (WC cI cS ad) 4 C1 53 [some (.ref (ad k)), some (.ref (ad 1)), none, none] [] := by
    intro C1 hf
    have hf := jE1 ek53_1 hf
    exact j_retV hR dX7_addWordsOf_53 hf
  exact lt_X7_addWordsOf_4 X hI Y hR N k hk k53_1 hk53_1 N _ _ _ hf
theorem c_X7_addWordsOf {l : Launch} {D : va_G} {cI cS : ClassId} {ad : Nat → Nat} (hI : kInj 132 ad) (N : Nat) (C : kS) (k : Nat) (hk : kd k = 7) {Cr : kS} (hf : f_X7_addWordsOf N C k = some Cr) : mV l yX7_addWordsOf wsX7_addWordsOf rm_X7_addWordsOf D cI cS (WC cI cS ad) (kAd 132 ad) C [.ref (ad k), .ref (ad 1)] Cr :=
  mV.of (by decide) rfl rfl (Nat.le_of_ble_eq_true rfl) (WC_D hI) (fun g X Y hR => t_X7_addWordsOf X hI Y hR N C k hk hf)
abbrev rm_X7_empty : Room := { frames := 0, cells := 0, slots := 0, locals := 0 }
theorem lk_X7_empty_0 : Cond.fieldLink RX7 28 "BlackBars$Words" "size" "I" ∈ wsX7_empty := List.mem_of_getElem? (i := 1) rfl
theorem iw_X7_empty_X7 : ∀ w ∈ wsX70, w ∈ wsX7_empty := fun _ h => List.mem_cons_of_mem _ (List.mem_append_right _ h)
theorem hd_X7_empty : kHd yX7_empty 0 := by decide +kernel
set_option maxHeartbeats 4000000 in
set_option maxRecDepth 100000 in
theorem t_X7_empty {g : kG} {cI cS : ClassId} {ad : Nat → Nat} (X : Kx g cI cS cX7_empty RX7 wsX7_empty 1 rm_X7_empty) {Cr : kS} (hI : kInj 132 ad) (Y : Kw g (WC cI cS ad) (kAd 132 ad)) (hR : kRV g (WC cI cS ad) 1 cX7_empty Cr) (N : Nat) (C : kS) (k : Nat) (hk : kd k = 7) (hf : f_X7_empty N C k = some Cr) : J g (WC cI cS ad) 1 C 0 [some (.ref (ad k))] [] := by
  unfold f_X7_empty at hf
  refine j_aload_n (pc := 0) X dX7_empty_0 rfl ?_
  refine j_iconst (pc := 1) X dX7_empty_1 kc_0 ?_
  obtain ⟨C1, eC1, hf⟩ := jn_s hf
  refine j_put (C' := C1) (pc := 2) X Y iw_X7_empty_X7 tyX7 tyX7_ok nmX7 (wc7 hk) rfl 4 (Nat.le_of_ble_eq_true rfl) lk_X7_empty_0 rfl (tyX7_ok 4 (Nat.le_of_ble_eq_true rfl)) (Nat.le_of_ble_eq_true rfl) dX7_empty_2 (by rw [eC1]; exact sc7_4 hk _) ?_
  exact j_retV hR dX7_empty_5 hf
theorem c_X7_empty {l : Launch} {D : va_G} {cI cS : ClassId} {ad : Nat → Nat} (hI : kInj 132 ad) (N : Nat) (C : kS) (k : Nat) (hk : kd k = 7) {Cr : kS} (hf : f_X7_empty N C k = some Cr) : mV l yX7_empty wsX7_empty rm_X7_empty D cI cS (WC cI cS ad) (kAd 132 ad) C [.ref (ad k)] Cr :=
  mV.of (by decide) rfl rfl (Nat.le_of_ble_eq_true rfl) (WC_D hI) (fun g X Y hR => t_X7_empty X hI Y hR N C k hk hf)
abbrev rm_X7_greatestLength : Room := { frames := 0, cells := 0, slots := 0, locals := 0 }
theorem lk_X7_greatestLength_0 : Cond.fieldLink RX7 13 "BlackBars$Words" "mostLetters" "I" ∈ wsX7_greatestLength := List.mem_of_getElem? (i := 1) rfl
theorem iw_X7_greatestLength_X7 : ∀ w ∈ wsX70, w ∈ wsX7_greatestLength := fun _ h => List.mem_cons_of_mem _ (List.mem_append_right _ h)
theorem hd_X7_greatestLength : kHd yX7_greatestLength 0 := by decide +kernel
set_option maxHeartbeats 4000000 in
set_option maxRecDepth 100000 in
theorem t_X7_greatestLength {g : kG} {cI cS : ClassId} {ad : Nat → Nat} {C : kS} (X : Kx g cI cS cX7_greatestLength RX7 wsX7_greatestLength 1 rm_X7_greatestLength) {r : Int32} (hR : kRI g (WC cI cS ad) 1 cX7_greatestLength .int C r) (N : Nat) (k : Nat) (hk : kd k = 7) (hf : f_X7_greatestLength N C k = some r) : J g (WC cI cS ad) 1 C 0 [some (.ref (ad k))] [] := by
  unfold f_X7_greatestLength at hf
  refine j_aload_n (pc := 0) X dX7_greatestLength_0 rfl ?_
  refine j_get (pc := 1) X iw_X7_greatestLength_X7 (wc7 hk) rfl 1 (Nat.le_of_ble_eq_true rfl) lk_X7_greatestLength_0 (v := .int (C k 1)) rfl dX7_greatestLength_1 ?_
  exact j_retI hR dX7_greatestLength_4 hf
theorem c_X7_greatestLength {l : Launch} {D : va_G} {cI cS : ClassId} {ad : Nat → Nat} (N : Nat) (C : kS) (k : Nat) (hk : kd k = 7) {r : Int32} (hf : f_X7_greatestLength N C k = some r) : mI l yX7_greatestLength wsX7_greatestLength rm_X7_greatestLength D cI cS (WC cI cS ad) C [.ref (ad k)] r :=
  mI.of (by decide) rfl rfl (Nat.le_of_ble_eq_true rfl) (fun g X hR => t_X7_greatestLength X  hR N k hk hf)
abbrev rm_X7_has : Room := { frames := 0, cells := 0, slots := 0, locals := 0 }
theorem lk_X7_has_0 : Cond.fieldLink RX7 28 "BlackBars$Words" "size" "I" ∈ wsX7_has := List.mem_of_getElem? (i := 1) rfl
theorem iw_X7_has_X7 : ∀ w ∈ wsX70, w ∈ wsX7_has := fun _ h => List.mem_cons_of_mem _ (List.mem_append_right _ h)
theorem hd_X7_has : kHd yX7_has 1 := by decide +kernel
set_option maxHeartbeats 4000000 in
set_option maxRecDepth 100000 in
theorem t_X7_has {g : kG} {cI cS : ClassId} {ad : Nat → Nat} {C : kS} (X : Kx g cI cS cX7_has RX7 wsX7_has 2 rm_X7_has) {r : Int32} (hR : kRI g (WC cI cS ad) 2 cX7_has .boolean C r) (N : Nat) (k : Nat) (a1 : Int32) (hk : kd k = 7) (hf : f_X7_has N C k a1 = some r) : J g (WC cI cS ad) 2 C 0 [some (.ref (ad k)), some (.int a1)] [] := by
  unfold f_X7_has at hf
  refine j_iload_n (pc := 0) X dX7_has_0 rfl ?_
  obtain ⟨j17_1, ej17_1, hf⟩ := jn_s hf
  have hj17_1 : ∀ (t1 : Int32), j17_1 t1 = some r → J g (WC cI cS ad) 2 C 17 [some (.ref (ad k)), some (.int a1)] [.int t1] := by
    intro t1 hf
    have hf := jE1 ej17_1 hf
    exact j_retB hR dX7_has_17 hf
  refine j_if_lt (tgt := 16) (pc := 1) X dX7_has_1 rfl (fun c3 => ?_) (fun c3 => ?_)
  · have hf := kT c3 hf
    refine j_iconst (pc := 16) X dX7_has_16 kc_0 ?_
    exact hj17_1 _ hf
  · have hf := kF c3 hf
    refine j_iload_n (pc := 4) X dX7_has_4 rfl ?_
    refine j_aload_n (pc := 5) X dX7_has_5 rfl ?_
    refine j_get (pc := 6) X iw_X7_has_X7 (wc7 hk) rfl 4 (Nat.le_of_ble_eq_true rfl) lk_X7_has_0 (v := .int (C k 4)) rfl dX7_has_6 ?_
    refine j_icmp_ge (tgt := 16) (pc := 9) X dX7_has_9 rfl (fun c4 => ?_) (fun c4 => ?_)
    · have hf := kT c4 hf
      refine j_iconst (pc := 16) X dX7_has_16 kc_0 ?_
      exact hj17_1 _ hf
    · have hf := kF c4 hf
      refine j_iconst (pc := 12) X dX7_has_12 kc_1 ?_
      refine j_goto (tgt := 17) (pc := 13) X dX7_has_13 rfl ?_
      exact hj17_1 _ hf
theorem c_X7_has {l : Launch} {D : va_G} {cI cS : ClassId} {ad : Nat → Nat} (N : Nat) (C : kS) (k : Nat) (hk : kd k = 7) (a1 : Int32) {r : Int32} (hf : f_X7_has N C k a1 = some r) : mI l yX7_has wsX7_has rm_X7_has D cI cS (WC cI cS ad) C [.ref (ad k), .int a1] r :=
  mI.of (by decide) rfl rfl (Nat.le_of_ble_eq_true rfl) (fun g X hR => t_X7_has X  hR N k a1 hk hf)
abbrev rm_X7_isWord : Room := { frames := 2, cells := 0, slots := 0, locals := 43 }
theorem hd_X7_isWord : kHd yX7_isWord 2 := by decide +kernel
set_option maxHeartbeats 4000000 in
set_option maxRecDepth 100000 in
theorem lt_X7_isWord_16 {g : kG} {cI cS : ClassId} {ad : Nat → Nat} {C : kS} (X : Kx g cI cS cX7_isWord RX7 wsX7_isWord 4 rm_X7_isWord) {r : Int32} (hR : kRI g (WC cI cS ad) 4 cX7_isWord .boolean C r) (N : Nat) (k : Nat) (a1 : Int32) (hk : kd k = 7) (k46_5 : Option (Int32)) (hk46_5 : ∀ (_ : Unit), k46_5 = some r → J g (WC cI cS ad) 4 C 46 [some (.ref (ad k)), some (.int a1), some (.ref (ad 1)), none] []) : ∀ (n : Nat) (x7 : Int32), lp_X7_isWord_16 N C k a1 k46_5 n x7 = some r → J g (WC cI cS ad) 4 C 16 [some (.ref (ad k)), some (.int a1), some (.ref (ad 1)), some (.int x7)] [] := by
  intro n
  induction n with
  | zero =>
    intro x7 hf
    rw [lp_X7_isWord_16] at hf
    cases hf
  | succ n ih =>
    intro x7 hf
    rw [lp_X7_isWord_16] at hf
    refine j_iload_n (pc := 16) X dX7_isWord_16 rfl ?_
    refine j_aload_n (pc := 17) X dX7_isWord_17 rfl ?_
    obtain ⟨r9, h8, hf⟩ := kB hf
    refine j_callI (pc := 18) X (c_X6_size N C  h8) gX7_isWord_X6_size rfl ⟨rfl, rfl⟩ rfl hd_X6_size ⟨(Nat.le_of_ble_eq_true rfl), (Nat.le_of_ble_eq_true rfl)⟩ (wc6 kd_1) rfl rfl rfl (Nat.le_of_ble_eq_true rfl) rfl dX7_isWord_18 ?_
    refine j_icmp_ge (tgt := 46) (pc := 21) X dX7_isWord_21 rfl (fun c10 => ?_) (fun c10 => ?_)
    · have hf := kT c10 hf
      refine j_weak (lv' := [some (.ref (ad k)), some (.int a1), some (.ref (ad 1)), none]) (And.intro rfl (And.intro rfl (And.intro rfl trivial))) ?_
      exact hk46_5 () hf
    · have hf := kF c10 hf
      refine j_aload_n (pc := 24) X dX7_isWord_24 rfl ?_
      refine j_iload_n (pc := 25) X dX7_isWord_25 rfl ?_
      refine j_iload_n (pc := 26) X dX7_isWord_26 rfl ?_
      obtain ⟨r12, h11, hf⟩ := kB hf
      refine j_callI (pc := 27) X (c_X7_letterOf N C k hk a1 x7 h11) gX7_isWord_X7_letterOf rfl ⟨rfl, rfl⟩ rfl hd_X7_letterOf ⟨(Nat.le_of_ble_eq_true rfl), (Nat.le_of_ble_eq_true rfl)⟩ (wc7 hk) rfl rfl rfl (Nat.le_of_ble_eq_true rfl) rfl dX7_isWord_27 ?_
      refine j_aload_n (pc := 30) X dX7_isWord_30 rfl ?_
      refine j_iload_n (pc := 31) X dX7_isWord_31 rfl ?_
      obtain ⟨r14, h13, hf⟩ := kB hf
      refine j_callI (pc := 32) X (c_X6_at N C x7 h13) gX7_isWord_X6_at rfl ⟨rfl, rfl⟩ rfl hd_X6_at ⟨(Nat.le_of_ble_eq_true rfl), (Nat.le_of_ble_eq_true rfl)⟩ (wc6 kd_1) rfl rfl rfl (Nat.le_of_ble_eq_true rfl) rfl dX7_isWord_32 ?_
      refine j_icmp_eq (tgt := 40) (pc := 35) X dX7_isWord_35 rfl (fun c15 => ?_) (fun c15 => ?_)
      · have hf := kT c15 hf
        refine j_iinc (pc := 40) X dX7_isWord_40 rfl (v := x7 + 1) (by rw [kc_1]) (Nat.le_of_ble_eq_true rfl) (lv' := [some (.ref (ad k)), some (.int a1), some (.ref (ad 1)), some (.int (x7 + 1))]) rfl ?_
        refine j_goto (tgt := 16) (pc := 43) X dX7_isWord_43 rfl ?_
        exact ih _ hf
      · have hf := kF c15 hf
        refine j_iconst (pc := 38) X dX7_isWord_38 kc_0 ?_
        exact j_retB hR dX7_isWord_39 hf
set_option maxHeartbeats 4000000 in
set_option maxRecDepth 100000 in
theorem t_X7_isWord {g : kG} {cI cS : ClassId} {ad : Nat → Nat} {C : kS} (X : Kx g cI cS cX7_isWord RX7 wsX7_isWord 4 rm_X7_isWord) {r : Int32} (hR : kRI g (WC cI cS ad) 4 cX7_isWord .boolean C r) (N : Nat) (k : Nat) (a1 : Int32) (hk : kd k = 7) (hf : f_X7_isWord N C k a1 = some r) : J g (WC cI cS ad) 4 C 0 [some (.ref (ad k)), some (.int a1), some (.ref (ad 1)), none] [] := by
  unfold f_X7_isWord at hf
  refine j_aload_n (pc := 0) X dX7_isWord_0 rfl ?_
  refine j_iload_n (pc := 1) X dX7_isWord_1 rfl ?_
  obtain ⟨r2, h1, hf⟩ := kB hf
  refine j_callI (pc := 2) X (c_X7_lengthOf N C k hk a1 h1) gX7_isWord_X7_lengthOf rfl ⟨rfl, rfl⟩ rfl hd_X7_lengthOf ⟨(Nat.le_of_ble_eq_true rfl), (Nat.le_of_ble_eq_true rfl)⟩ (wc7 hk) rfl rfl rfl (Nat.le_of_ble_eq_true rfl) rfl dX7_isWord_2 ?_
  refine j_aload_n (pc := 5) X dX7_isWord_5 rfl ?_
  obtain ⟨r4, h3, hf⟩ := kB hf
  refine j_callI (pc := 6) X (c_X6_size N C  h3) gX7_isWord_X6_size rfl ⟨rfl, rfl⟩ rfl hd_X6_size ⟨(Nat.le_of_ble_eq_true rfl), (Nat.le_of_ble_eq_true rfl)⟩ (wc6 kd_1) rfl rfl rfl (Nat.le_of_ble_eq_true rfl) rfl dX7_isWord_6 ?_
  refine j_icmp_eq (tgt := 14) (pc := 9) X dX7_isWord_9 rfl (fun c5 => ?_) (fun c5 => ?_)
  · have hf := kT c5 hf
    refine j_iconst (pc := 14) X dX7_isWord_14 kc_0 ?_
    refine j_istore_n (pc := 15) X dX7_isWord_15 (Nat.le_of_ble_eq_true rfl) (lv' := [some (.ref (ad k)), some (.int a1), some (.ref (ad 1)), some (.int 0)]) rfl ?_
    obtain ⟨k46_5, ek46_5, hf⟩ := jn_s hf
    have hk46_5 : ∀ (_ : Unit), k46_5 = some r → J g (WC cI cS ad) 4 C 46 [some (.ref (ad k)), some (.int a1), some (.ref (ad 1)), none] [] := by
      intro _ hf
      have hf := jE0 ek46_5 hf
      refine j_iconst (pc := 46) X dX7_isWord_46 kc_1 ?_
      exact j_retB hR dX7_isWord_47 hf
    exact lt_X7_isWord_16 X hR N k a1  hk  k46_5 hk46_5 N _ hf
  · have hf := kF c5 hf
    refine j_iconst (pc := 12) X dX7_isWord_12 kc_0 ?_
    exact j_retB hR dX7_isWord_13 hf
theorem c_X7_isWord {l : Launch} {D : va_G} {cI cS : ClassId} {ad : Nat → Nat} (N : Nat) (C : kS) (k : Nat) (hk : kd k = 7) (a1 : Int32) {r : Int32} (hf : f_X7_isWord N C k a1 = some r) : mI l yX7_isWord wsX7_isWord rm_X7_isWord D cI cS (WC cI cS ad) C [.ref (ad k), .int a1, .ref (ad 1)] r :=
  mI.of (by decide) rfl rfl (Nat.le_of_ble_eq_true rfl) (fun g X hR => t_X7_isWord X  hR N k a1 hk hf)
abbrev rm_X7_hasWord : Room := { frames := 3, cells := 0, slots := 0, locals := 66 }
theorem lk_X7_hasWord_0 : Cond.fieldLink RX7 28 "BlackBars$Words" "size" "I" ∈ wsX7_hasWord := List.mem_of_getElem? (i := 1) rfl
theorem iw_X7_hasWord_X7 : ∀ w ∈ wsX70, w ∈ wsX7_hasWord := fun _ h => List.mem_cons_of_mem _ (List.mem_append_left _ (List.mem_append_left _ (List.mem_append_right _ h)))
theorem hd_X7_hasWord : kHd yX7_hasWord 1 := by decide +kernel
set_option maxHeartbeats 4000000 in
set_option maxRecDepth 100000 in
theorem lt_X7_hasWord_2 {g : kG} {cI cS : ClassId} {ad : Nat → Nat} {C : kS} (X : Kx g cI cS cX7_hasWord RX7 wsX7_hasWord 3 rm_X7_hasWord) {r : Int32} (hR : kRI g (WC cI cS ad) 3 cX7_hasWord .boolean C r) (N : Nat) (k : Nat) (hk : kd k = 7) (k27_0 : Option (Int32)) (hk27_0 : ∀ (_ : Unit), k27_0 = some r → J g (WC cI cS ad) 3 C 27 [some (.ref (ad k)), some (.ref (ad 1)), none] []) : ∀ (n : Nat) (x2 : Int32), lp_X7_hasWord_2 N C k k27_0 n x2 = some r → J g (WC cI cS ad) 3 C 2 [some (.ref (ad k)), some (.ref (ad 1)), some (.int x2)] [] := by
  intro n
  induction n with
  | zero =>
    intro x2 hf
    rw [lp_X7_hasWord_2] at hf
    cases hf
  | succ n ih =>
    intro x2 hf
    rw [lp_X7_hasWord_2] at hf
    refine j_iload_n (pc := 2) X dX7_hasWord_2 rfl ?_
    refine j_aload_n (pc := 3) X dX7_hasWord_3 rfl ?_
    refine j_get (pc := 4) X iw_X7_hasWord_X7 (wc7 hk) rfl 4 (Nat.le_of_ble_eq_true rfl) lk_X7_hasWord_0 (v := .int (C k 4)) rfl dX7_hasWord_4 ?_
    refine j_icmp_ge (tgt := 27) (pc := 7) X dX7_hasWord_7 rfl (fun c3 => ?_) (fun c3 => ?_)
    · have hf := kT c3 hf
      refine j_weak (lv' := [some (.ref (ad k)), some (.ref (ad 1)), none]) (And.intro rfl (And.intro rfl trivial)) ?_
      exact hk27_0 () hf
    · have hf := kF c3 hf
      refine j_aload_n (pc := 10) X dX7_hasWord_10 rfl ?_
      refine j_iload_n (pc := 11) X dX7_hasWord_11 rfl ?_
      refine j_aload_n (pc := 12) X dX7_hasWord_12 rfl ?_
      obtain ⟨r5, h4, hf⟩ := kB hf
      refine j_callI (pc := 13) X (c_X7_isWord N C k hk x2 h4) gX7_hasWord_X7_isWord rfl ⟨rfl, rfl⟩ rfl hd_X7_isWord ⟨(Nat.le_of_ble_eq_true rfl), (Nat.le_of_ble_eq_true rfl)⟩ (wc7 hk) rfl rfl rfl (Nat.le_of_ble_eq_true rfl) rfl dX7_hasWord_13 ?_
      refine j_if_eq (tgt := 21) (pc := 16) X dX7_hasWord_16 rfl (fun c6 => ?_) (fun c6 => ?_)
      · have hf := kT c6 hf
        refine j_iinc (pc := 21) X dX7_hasWord_21 rfl (v := x2 + 1) (by rw [kc_1]) (Nat.le_of_ble_eq_true rfl) (lv' := [some (.ref (ad k)), some (.ref (ad 1)), some (.int (x2 + 1))]) rfl ?_
        refine j_goto (tgt := 2) (pc := 24) X dX7_hasWord_24 rfl ?_
        exact ih _ hf
      · have hf := kF c6 hf
        refine j_iconst (pc := 19) X dX7_hasWord_19 kc_1 ?_
        exact j_retB hR dX7_hasWord_20 hf
set_option maxHeartbeats 4000000 in
set_option maxRecDepth 100000 in
theorem t_X7_hasWord {g : kG} {cI cS : ClassId} {ad : Nat → Nat} {C : kS} (X : Kx g cI cS cX7_hasWord RX7 wsX7_hasWord 3 rm_X7_hasWord) {r : Int32} (hR : kRI g (WC cI cS ad) 3 cX7_hasWord .boolean C r) (N : Nat) (k : Nat) (hk : kd k = 7) (hf : f_X7_hasWord N C k = some r) : J g (WC cI cS ad) 3 C 0 [some (.ref (ad k)), some (.ref (ad 1)), none] [] := by
  unfold f_X7_hasWord at hf
  refine j_iconst (pc := 0) X dX7_hasWord_0 kc_0 ?_
  refine j_istore_n (pc := 1) X dX7_hasWord_1 (Nat.le_of_ble_eq_true rfl) (lv' := [some (.ref (ad k)), some (.ref (ad 1)), some (.int 0)]) rfl ?_
  obtain ⟨k27_0, ek27_0, hf⟩ := jn_s hf
  have hk27_0 : ∀ (_ : Unit), k27_0 = some r → J g (WC cI cS ad) 3 C 27 [some (.ref (ad k)), some (.ref (ad 1)), none] [] := by
    intro _ hf
    have hf := jE0 ek27_0 hf
    refine j_iconst (pc := 27) X dX7_hasWord_27 kc_0 ?_
    exact j_retB hR dX7_hasWord_28 hf
  exact lt_X7_hasWord_2 X hR N k  hk k27_0 hk27_0 N _ hf
theorem c_X7_hasWord {l : Launch} {D : va_G} {cI cS : ClassId} {ad : Nat → Nat} (N : Nat) (C : kS) (k : Nat) (hk : kd k = 7) {r : Int32} (hf : f_X7_hasWord N C k = some r) : mI l yX7_hasWord wsX7_hasWord rm_X7_hasWord D cI cS (WC cI cS ad) C [.ref (ad k), .ref (ad 1)] r :=
  mI.of (by decide) rfl rfl (Nat.le_of_ble_eq_true rfl) (fun g X hR => t_X7_hasWord X  hR N k hk hf)
abbrev rm_X7_isFull : Room := { frames := 0, cells := 0, slots := 0, locals := 0 }
theorem lk_X7_isFull_0 : Cond.fieldLink RX7 28 "BlackBars$Words" "size" "I" ∈ wsX7_isFull := List.mem_of_getElem? (i := 1) rfl
theorem iw_X7_isFull_X7 : ∀ w ∈ wsX70, w ∈ wsX7_isFull := fun _ h => List.mem_cons_of_mem _ (List.mem_append_right _ h)
theorem lk_X7_isFull_1 : Cond.fieldLink RX7 7 "BlackBars$Words" "mostWords" "I" ∈ wsX7_isFull := List.mem_of_getElem? (i := 2) rfl
theorem hd_X7_isFull : kHd yX7_isFull 0 := by decide +kernel
set_option maxHeartbeats 4000000 in
set_option maxRecDepth 100000 in
theorem t_X7_isFull {g : kG} {cI cS : ClassId} {ad : Nat → Nat} {C : kS} (X : Kx g cI cS cX7_isFull RX7 wsX7_isFull 1 rm_X7_isFull) {r : Int32} (hR : kRI g (WC cI cS ad) 1 cX7_isFull .boolean C r) (N : Nat) (k : Nat) (hk : kd k = 7) (hf : f_X7_isFull N C k = some r) : J g (WC cI cS ad) 1 C 0 [some (.ref (ad k))] [] := by
  unfold f_X7_isFull at hf
  refine j_aload_n (pc := 0) X dX7_isFull_0 rfl ?_
  refine j_get (pc := 1) X iw_X7_isFull_X7 (wc7 hk) rfl 4 (Nat.le_of_ble_eq_true rfl) lk_X7_isFull_0 (v := .int (C k 4)) rfl dX7_isFull_1 ?_
  refine j_aload_n (pc := 4) X dX7_isFull_4 rfl ?_
  refine j_get (pc := 5) X iw_X7_isFull_X7 (wc7 hk) rfl 0 (Nat.le_of_ble_eq_true rfl) lk_X7_isFull_1 (v := .int (C k 0)) rfl dX7_isFull_5 ?_
  obtain ⟨j16_1, ej16_1, hf⟩ := jn_s hf
  have hj16_1 : ∀ (t1 : Int32), j16_1 t1 = some r → J g (WC cI cS ad) 1 C 16 [some (.ref (ad k))] [.int t1] := by
    intro t1 hf
    have hf := jE1 ej16_1 hf
    exact j_retB hR dX7_isFull_16 hf
  refine j_icmp_lt (tgt := 15) (pc := 8) X dX7_isFull_8 rfl (fun c3 => ?_) (fun c3 => ?_)
  · have hf := kT c3 hf
    refine j_iconst (pc := 15) X dX7_isFull_15 kc_0 ?_
    exact hj16_1 _ hf
  · have hf := kF c3 hf
    refine j_iconst (pc := 11) X dX7_isFull_11 kc_1 ?_
    refine j_goto (tgt := 16) (pc := 12) X dX7_isFull_12 rfl ?_
    exact hj16_1 _ hf
theorem c_X7_isFull {l : Launch} {D : va_G} {cI cS : ClassId} {ad : Nat → Nat} (N : Nat) (C : kS) (k : Nat) (hk : kd k = 7) {r : Int32} (hf : f_X7_isFull N C k = some r) : mI l yX7_isFull wsX7_isFull rm_X7_isFull D cI cS (WC cI cS ad) C [.ref (ad k)] r :=
  mI.of (by decide) rfl rfl (Nat.le_of_ble_eq_true rfl) (fun g X hR => t_X7_isFull X  hR N k hk hf)
