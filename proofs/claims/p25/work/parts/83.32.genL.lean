abbrev rm_L_low : Room := { frames := 0, cells := 0, slots := 0, locals := 0 }
theorem lk_L_low_0 : Cond.constant RL 8 (2147483647) ∈ wsL_low := List.mem_of_getElem? (i := 1) rfl
theorem hd_L_low : kHd yL_low 2 := by decide +kernel
set_option maxHeartbeats 4000000 in
set_option maxRecDepth 100000 in
theorem t_L_low {g : kG} {cI cS : ClassId} (X : Kx g cI cS cL_low RL wsL_low 2 rm_L_low) {r : Int32} (hR : eI g 2 cL_low .int [] r) (N : Nat) (a0 : Int32) (a1 : Int32) (hf : f_L_low N a0 a1 = some r) : JA g [] 2 0 [some (.int a0), some (.int a1)] [] := by
  unfold f_L_low at hf
  refine j_iload_n (pc := 0) X dL_low_0 rfl ?_
  refine j_ldc (pc := 1) X lk_L_low_0 dL_low_1 ?_
  refine j_iand (pc := 3) X dL_low_3 ?_
  refine j_iload_n (pc := 4) X dL_low_4 rfl ?_
  obtain ⟨z1, hf⟩ := gNz_s hf
  refine j_irem (pc := 5) X dL_low_5 z1 ?_
  exact a_retI hR dL_low_6 hf
theorem c_L_low {l : Launch} {D : va_G} {cI cS : ClassId} (N : Nat) (a0 : Int32) (a1 : Int32) {r : Int32} (hf : f_L_low N a0 a1 = some r) : mP l yL_low wsL_low rm_L_low D cI cS [.int a0, .int a1] r :=
  mP.of2 (by decide) rfl (Nat.le_of_ble_eq_true rfl) (fun g X hR => t_L_low X hR N a0 a1 hf)
abbrev rm_L_length : Room := { frames := 0, cells := 0, slots := 0, locals := 0 }
theorem hd_L_length : kHd yL_length 1 := by decide +kernel
set_option maxHeartbeats 4000000 in
set_option maxRecDepth 100000 in
theorem lt_L_length_2 {g : kG} {cI cS : ClassId} (X : Kx g cI cS cL_length RL wsL_length 3 rm_L_length) {r : Int32} (hR : eI g 3 cL_length .int [] r) (N : Nat) (a0 : Int64) (k18_1 : Int32 → Option (Int32)) (hk18_1 : ∀ (x1 : Int32), k18_1 x1 = some r → JA g [] 3 18 [some (.long a0), none, some (.int x1)] []) : ∀ (n : Nat) (x3 : Int32), lp_L_length_2 N a0 k18_1 n x3 = some r → JA g [] 3 2 [some (.long a0), none, some (.int x3)] [] := by
  intro n
  induction n with
  | zero =>
    intro x3 hf
    rw [lp_L_length_2] at hf
    cases hf
  | succ n ih =>
    intro x3 hf
    rw [lp_L_length_2] at hf
    refine j_lload_n (pc := 2) X dL_length_2 rfl ?_
    refine j_iconst (pc := 3) X dL_length_3 kcL_5 ?_
    refine j_iload_n (pc := 4) X dL_length_4 rfl ?_
    refine j_imul (pc := 5) X dL_length_5 ?_
    refine j_lshr (pc := 6) X dL_length_6 ?_
    refine j_lconst (pc := 7) X dL_length_7 klL_0 ?_
    refine j_lcmp (pc := 8) X dL_length_8 ?_
    refine j_if_le (tgt := 18) (pc := 9) X dL_length_9 rfl (fun c4 => ?_) (fun c4 => ?_)
    · have hf := kT c4 hf
      exact hk18_1 _ hf
    · have hf := kF c4 hf
      refine j_iinc (pc := 12) X dL_length_12 rfl (v := x3 + 1) (by rw [kcL_1]) (Nat.le_of_ble_eq_true rfl) (lv' := [some (.long a0), none, some (.int (x3 + 1))]) rfl ?_
      refine j_goto (tgt := 2) (pc := 15) X dL_length_15 rfl ?_
      exact ih _ hf
set_option maxHeartbeats 4000000 in
set_option maxRecDepth 100000 in
theorem t_L_length {g : kG} {cI cS : ClassId} (X : Kx g cI cS cL_length RL wsL_length 3 rm_L_length) {r : Int32} (hR : eI g 3 cL_length .int [] r) (N : Nat) (a0 : Int64) (hf : f_L_length N a0 = some r) : JA g [] 3 0 [some (.long a0), none, none] [] := by
  unfold f_L_length at hf
  refine j_iconst (pc := 0) X dL_length_0 kcL_0 ?_
  refine j_istore_n (pc := 1) X dL_length_1 (Nat.le_of_ble_eq_true rfl) (lv' := [some (.long a0), none, some (.int 0)]) rfl ?_
  obtain ⟨k18_1, ek18_1, hf⟩ := jn_s hf
  have hk18_1 : ∀ (x1 : Int32), k18_1 x1 = some r → JA g [] 3 18 [some (.long a0), none, some (.int x1)] [] := by
    intro x1 hf
    have hf := jE1 ek18_1 hf
    refine j_iload_n (pc := 18) X dL_length_18 rfl ?_
    exact a_retI hR dL_length_19 hf
  exact lt_L_length_2 X hR N a0 k18_1 hk18_1 N _ hf
theorem c_L_length {l : Launch} {D : va_G} {cI cS : ClassId} (N : Nat) (a0 : Int64) {r : Int32} (hf : f_L_length N a0 = some r) : mP l yL_length wsL_length rm_L_length D cI cS [.long a0] r :=
  mP.of2 (by decide) rfl (Nat.le_of_ble_eq_true rfl) (fun g X hR => t_L_length X hR N a0 hf)
abbrev rm_L_ones : Room := { frames := 0, cells := 0, slots := 0, locals := 0 }
theorem hd_L_ones : kHd yL_ones 1 := by decide +kernel
set_option maxHeartbeats 4000000 in
set_option maxRecDepth 100000 in
theorem lt_L_ones_4 {g : kG} {cI cS : ClassId} (X : Kx g cI cS cL_ones RL wsL_ones 3 rm_L_ones) {r : Int32} (hR : eI g 3 cL_ones .int [] r) (N : Nat) (a0 : Int32) (k20_1 : Int32 → Option (Int32)) (hk20_1 : ∀ (x1 : Int32), k20_1 x1 = some r → JA g [] 3 20 [some (.int a0), some (.int x1), none] []) : ∀ (n : Nat) (x3 : Int32) (x4 : Int32), lp_L_ones_4 N k20_1 n x3 x4 = some r → JA g [] 3 4 [some (.int a0), some (.int x3), some (.int x4)] [] := by
  intro n
  induction n with
  | zero =>
    intro x3 x4 hf
    rw [lp_L_ones_4] at hf
    cases hf
  | succ n ih =>
    intro x3 x4 hf
    rw [lp_L_ones_4] at hf
    refine j_iload_n (pc := 4) X dL_ones_4 rfl ?_
    refine j_if_le (tgt := 20) (pc := 5) X dL_ones_5 rfl (fun c5 => ?_) (fun c5 => ?_)
    · have hf := kT c5 hf
      refine j_weak (lv' := [some (.int a0), some (.int x3), none]) (And.intro rfl (And.intro rfl trivial)) ?_
      exact hk20_1 _ hf
    · have hf := kF c5 hf
      refine j_iinc (pc := 8) X dL_ones_8 rfl (v := x3 + 1) (by rw [kcL_1]) (Nat.le_of_ble_eq_true rfl) (lv' := [some (.int a0), some (.int (x3 + 1)), some (.int x4)]) rfl ?_
      refine j_iload_n (pc := 11) X dL_ones_11 rfl ?_
      refine j_iload_n (pc := 12) X dL_ones_12 rfl ?_
      refine j_iconst (pc := 13) X dL_ones_13 kcL_1 ?_
      refine j_isub (pc := 14) X dL_ones_14 ?_
      refine j_iand (pc := 15) X dL_ones_15 ?_
      refine j_istore_n (pc := 16) X dL_ones_16 (Nat.le_of_ble_eq_true rfl) (lv' := [some (.int a0), some (.int (x3 + 1)), some (.int (x4 &&& (x4 - 1)))]) rfl ?_
      refine j_goto (tgt := 4) (pc := 17) X dL_ones_17 rfl ?_
      exact ih _ _ hf
set_option maxHeartbeats 4000000 in
set_option maxRecDepth 100000 in
theorem t_L_ones {g : kG} {cI cS : ClassId} (X : Kx g cI cS cL_ones RL wsL_ones 3 rm_L_ones) {r : Int32} (hR : eI g 3 cL_ones .int [] r) (N : Nat) (a0 : Int32) (hf : f_L_ones N a0 = some r) : JA g [] 3 0 [some (.int a0), none, none] [] := by
  unfold f_L_ones at hf
  refine j_iconst (pc := 0) X dL_ones_0 kcL_0 ?_
  refine j_istore_n (pc := 1) X dL_ones_1 (Nat.le_of_ble_eq_true rfl) (lv' := [some (.int a0), some (.int 0), none]) rfl ?_
  refine j_iload_n (pc := 2) X dL_ones_2 rfl ?_
  refine j_istore_n (pc := 3) X dL_ones_3 (Nat.le_of_ble_eq_true rfl) (lv' := [some (.int a0), some (.int 0), some (.int a0)]) rfl ?_
  obtain ⟨k20_1, ek20_1, hf⟩ := jn_s hf
  have hk20_1 : ∀ (x1 : Int32), k20_1 x1 = some r → JA g [] 3 20 [some (.int a0), some (.int x1), none] [] := by
    intro x1 hf
    have hf := jE1 ek20_1 hf
    refine j_iload_n (pc := 20) X dL_ones_20 rfl ?_
    exact a_retI hR dL_ones_21 hf
  exact lt_L_ones_4 X hR N a0 k20_1 hk20_1 N _ _ hf
theorem c_L_ones {l : Launch} {D : va_G} {cI cS : ClassId} (N : Nat) (a0 : Int32) {r : Int32} (hf : f_L_ones N a0 = some r) : mP l yL_ones wsL_ones rm_L_ones D cI cS [.int a0] r :=
  mP.of2 (by decide) rfl (Nat.le_of_ble_eq_true rfl) (fun g X hR => t_L_ones X hR N a0 hf)
abbrev rm_L_letters : Room := { frames := 1, cells := 0, slots := 0, locals := 21 }
theorem hd_L_letters : kHd yL_letters 2 := by decide +kernel
set_option maxHeartbeats 4000000 in
set_option maxRecDepth 100000 in
theorem lt_L_letters_5 {g : kG} {cI cS : ClassId} (X : Kx g cI cS cL_letters RL wsL_letters 6 rm_L_letters) {r : Int64} (hR : eL g 6 cL_letters [] r) (N : Nat) (a0 : Int32) (a1 : Int32) (k90_1 : Int64 → Option (Int64)) (hk90_1 : ∀ (x1 : Int64), k90_1 x1 = some r → JA g [] 6 90 [some (.int a0), some (.int a1), some (.long x1), none, none, none] []) : ∀ (n : Nat) (x3 : Int64) (x4 : Int32), lp_L_letters_5 N a0 a1 k90_1 n x3 x4 = some r → JA g [] 6 5 [some (.int a0), some (.int a1), some (.long x3), none, some (.int x4), none] [] := by
  intro n
  induction n with
  | zero =>
    intro x3 x4 hf
    rw [lp_L_letters_5] at hf
    cases hf
  | succ n ih =>
    intro x3 x4 hf
    rw [lp_L_letters_5] at hf
    refine j_iload (pc := 5) X dL_letters_5 rfl ?_
    refine j_iload_n (pc := 7) X dL_letters_7 rfl ?_
    refine j_icmp_ge (tgt := 90) (pc := 8) X dL_letters_8 rfl (fun c5 => ?_) (fun c5 => ?_)
    · have hf := kT c5 hf
      refine j_weak (lv' := [some (.int a0), some (.int a1), some (.long x3), none, none, none]) (And.intro rfl (And.intro rfl (And.intro rfl trivial))) ?_
      exact hk90_1 _ hf
    · have hf := kF c5 hf
      refine j_iload_n (pc := 11) X dL_letters_11 rfl ?_
      refine j_iconst (pc := 12) X dL_letters_12 kcL_3 ?_
      refine j_iload (pc := 13) X dL_letters_13 rfl ?_
      refine j_imul (pc := 15) X dL_letters_15 ?_
      refine j_ishr (pc := 16) X dL_letters_16 ?_
      refine j_bipush (pc := 17) X dL_letters_17 kbL_6 ?_
      obtain ⟨r7, h6, hf⟩ := kB hf
      refine j_callP (pc := 19) X (c_L_low N (a0 >>> ((3 * x4) &&& 31)) 6 h6) gL_letters_L_low rfl ⟨rfl, rfl⟩ hd_L_low ⟨(Nat.le_of_ble_eq_true rfl), (Nat.le_of_ble_eq_true rfl)⟩ rfl (Nat.le_of_ble_eq_true rfl) rfl dL_letters_19 ?_
      refine j_istore (pc := 22) X dL_letters_22 (Nat.le_of_ble_eq_true rfl) (lv' := [some (.int a0), some (.int a1), some (.long x3), none, some (.int x4), some (.int r7)]) rfl ?_
      refine j_lload_n (pc := 24) X dL_letters_24 rfl ?_
      refine j_iconst (pc := 25) X dL_letters_25 kcL_5 ?_
      refine j_lshl (pc := 26) X dL_letters_26 ?_
      refine j_iload (pc := 27) X dL_letters_27 rfl ?_
      obtain ⟨j81_8, ej81_8, hf⟩ := jn_s hf
      have hj81_8 : ∀ (t8 : Int32), j81_8 t8 = some r → JA g [] 6 81 [some (.int a0), some (.int a1), some (.long x3), none, some (.int x4), some (.int r7)] [.int t8, .long (x3 <<< ((5 : Int32).toInt64 &&& 63))] := by
        intro t8 hf
        have hf := jE1 ej81_8 hf
        refine j_i2l (pc := 81) X dL_letters_81 ?_
        refine j_lor (pc := 82) X dL_letters_82 ?_
        obtain ⟨x10, ex10, hf⟩ := jn_s hf
        refine j_lstore_n (pc := 83) X dL_letters_83 (Nat.le_of_ble_eq_true rfl) (lv' := [some (.int a0), some (.int a1), some (.long x10), none, some (.int x4), some (.int r7)]) (by rw [ex10]; rfl) ?_
        refine j_iinc (pc := 84) X dL_letters_84 rfl (v := x4 + 1) (by rw [kcL_1]) (Nat.le_of_ble_eq_true rfl) (lv' := [some (.int a0), some (.int a1), some (.long x10), none, some (.int (x4 + 1)), some (.int r7)]) rfl ?_
        refine j_goto (tgt := 5) (pc := 87) X dL_letters_87 rfl ?_
        refine j_weak (lv' := [some (.int a0), some (.int a1), some (.long x10), none, some (.int (x4 + 1)), none]) (And.intro rfl (And.intro rfl (And.intro rfl (And.intro rfl trivial)))) ?_
        exact ih _ _ hf
      refine j_if_ne (tgt := 36) (pc := 29) X dL_letters_29 rfl (fun c11 => ?_) (fun c11 => ?_)
      · have hf := kF c11 hf
        refine j_iload (pc := 36) X dL_letters_36 rfl ?_
        refine j_iconst (pc := 38) X dL_letters_38 kcL_1 ?_
        refine j_icmp_ne (tgt := 47) (pc := 39) X dL_letters_39 rfl (fun c12 => ?_) (fun c12 => ?_)
        · have hf := kF c12 hf
          refine j_iload (pc := 47) X dL_letters_47 rfl ?_
          refine j_iconst (pc := 49) X dL_letters_49 kcL_2 ?_
          refine j_icmp_ne (tgt := 58) (pc := 50) X dL_letters_50 rfl (fun c13 => ?_) (fun c13 => ?_)
          · have hf := kF c13 hf
            refine j_iload (pc := 58) X dL_letters_58 rfl ?_
            refine j_iconst (pc := 60) X dL_letters_60 kcL_3 ?_
            refine j_icmp_ne (tgt := 69) (pc := 61) X dL_letters_61 rfl (fun c14 => ?_) (fun c14 => ?_)
            · have hf := kF c14 hf
              refine j_iload (pc := 69) X dL_letters_69 rfl ?_
              refine j_iconst (pc := 71) X dL_letters_71 kcL_4 ?_
              refine j_icmp_ne (tgt := 80) (pc := 72) X dL_letters_72 rfl (fun c15 => ?_) (fun c15 => ?_)
              · have hf := kF c15 hf
                refine j_iconst (pc := 80) X dL_letters_80 kcL_2 ?_
                exact hj81_8 _ hf
              · have hf := kT c15 hf
                refine j_bipush (pc := 75) X dL_letters_75 kbL_20 ?_
                refine j_goto (tgt := 81) (pc := 77) X dL_letters_77 rfl ?_
                exact hj81_8 _ hf
            · have hf := kT c14 hf
              refine j_bipush (pc := 64) X dL_letters_64 kbL_6 ?_
              refine j_goto (tgt := 81) (pc := 66) X dL_letters_66 rfl ?_
              exact hj81_8 _ hf
          · have hf := kT c13 hf
            refine j_bipush (pc := 53) X dL_letters_53 kbL_13 ?_
            refine j_goto (tgt := 81) (pc := 55) X dL_letters_55 rfl ?_
            exact hj81_8 _ hf
        · have hf := kT c12 hf
          refine j_bipush (pc := 42) X dL_letters_42 kbL_9 ?_
          refine j_goto (tgt := 81) (pc := 44) X dL_letters_44 rfl ?_
          exact hj81_8 _ hf
      · have hf := kT c11 hf
        refine j_iconst (pc := 32) X dL_letters_32 kcL_1 ?_
        refine j_goto (tgt := 81) (pc := 33) X dL_letters_33 rfl ?_
        exact hj81_8 _ hf
set_option maxHeartbeats 4000000 in
set_option maxRecDepth 100000 in
theorem t_L_letters {g : kG} {cI cS : ClassId} (X : Kx g cI cS cL_letters RL wsL_letters 6 rm_L_letters) {r : Int64} (hR : eL g 6 cL_letters [] r) (N : Nat) (a0 : Int32) (a1 : Int32) (hf : f_L_letters N a0 a1 = some r) : JA g [] 6 0 [some (.int a0), some (.int a1), none, none, none, none] [] := by
  unfold f_L_letters at hf
  refine j_lconst (pc := 0) X dL_letters_0 klL_0 ?_
  refine j_lstore_n (pc := 1) X dL_letters_1 (Nat.le_of_ble_eq_true rfl) (lv' := [some (.int a0), some (.int a1), some (.long (0 : Int64)), none, none, none]) rfl ?_
  refine j_iconst (pc := 2) X dL_letters_2 kcL_0 ?_
  refine j_istore (pc := 3) X dL_letters_3 (Nat.le_of_ble_eq_true rfl) (lv' := [some (.int a0), some (.int a1), some (.long (0 : Int64)), none, some (.int 0), none]) rfl ?_
  obtain ⟨k90_1, ek90_1, hf⟩ := jn_s hf
  have hk90_1 : ∀ (x1 : Int64), k90_1 x1 = some r → JA g [] 6 90 [some (.int a0), some (.int a1), some (.long x1), none, none, none] [] := by
    intro x1 hf
    have hf := jE1 ek90_1 hf
    refine j_lload_n (pc := 90) X dL_letters_90 rfl ?_
    exact a_retL hR dL_letters_91 hf
  exact lt_L_letters_5 X hR N a0 a1 k90_1 hk90_1 N _ _ hf
theorem c_L_letters {l : Launch} {D : va_G} {cI cS : ClassId} (N : Nat) (a0 : Int32) (a1 : Int32) {r : Int64} (hf : f_L_letters N a0 a1 = some r) : mLP l yL_letters wsL_letters rm_L_letters D cI cS [.int a0, .int a1] r :=
  mLP.of (by decide) rfl (Nat.le_of_ble_eq_true rfl) (fun g X hR => t_L_letters X hR N a0 a1 hf)
abbrev rm_L_width : Room := { frames := 1, cells := 0, slots := 0, locals := 22 }
theorem lk_L_width_0 : Cond.constantLong RL 15 (31) ∈ wsL_width := List.mem_of_getElem? (i := 1) rfl
theorem hd_L_width : kHd yL_width 2 := by decide +kernel
set_option maxHeartbeats 4000000 in
set_option maxRecDepth 100000 in
theorem lt_L_width_10 {g : kG} {cI cS cJ : ClassId} {al : Nat → Nat} {C : kS} (X : Kx g cI cS cL_width RL wsL_width 5 rm_L_width) (hE : kE g.2.2.2.1 cJ g.1.2.2.2.2) {r : Int32} (hR : eI g 5 cL_width .int (WL3 cI cJ al C) r) (N : Nat) (a1 : Int64) (k39_3 : Int32 → Option (Int32)) (hk39_3 : ∀ (x3 : Int32), k39_3 x3 = some r → JA g (WL3 cI cJ al C) 5 39 [some (.ref (al 1)), some (.long a1), none, some (.int x3), none] []) : ∀ (n : Nat) (x5 : Int32) (x6 : Int32), lp_L_width_10 N C a1 k39_3 n x5 x6 = some r → JA g (WL3 cI cJ al C) 5 10 [some (.ref (al 1)), some (.long a1), none, some (.int x5), some (.int x6)] [] := by
  intro n
  induction n with
  | zero =>
    intro x5 x6 hf
    rw [lp_L_width_10] at hf
    cases hf
  | succ n ih =>
    intro x5 x6 hf
    rw [lp_L_width_10] at hf
    refine j_iload (pc := 10) X dL_width_10 rfl ?_
    refine j_if_lt (tgt := 39) (pc := 12) X dL_width_12 rfl (fun c7 => ?_) (fun c7 => ?_)
    · have hf := kT c7 hf
      refine j_weak (lv' := [some (.ref (al 1)), some (.long a1), none, some (.int x5), none]) (And.intro rfl (And.intro rfl (And.intro rfl trivial))) ?_
      exact hk39_3 _ hf
    · have hf := kF c7 hf
      refine j_iload_n (pc := 15) X dL_width_15 rfl ?_
      refine j_aload_n (pc := 16) X dL_width_16 rfl ?_
      refine j_lload_n (pc := 17) X dL_width_17 rfl ?_
      refine j_iconst (pc := 18) X dL_width_18 kcL_5 ?_
      refine j_iload (pc := 19) X dL_width_19 rfl ?_
      refine j_imul (pc := 21) X dL_width_21 ?_
      refine j_lshr (pc := 22) X dL_width_22 ?_
      refine j_ldc2 (pc := 23) X lk_L_width_0 dL_width_23 ?_
      refine j_land (pc := 26) X dL_width_26 ?_
      refine j_l2i (pc := 27) X dL_width_27 ?_
      refine j_iconst (pc := 28) X dL_width_28 kcL_1 ?_
      refine j_isub (pc := 29) X dL_width_29 ?_
      obtain ⟨b8, hf⟩ := gIn_s hf
      refine a_iald (pc := 30) X w3_1 b8 dL_width_30 ?_
      refine j_iadd (pc := 31) X dL_width_31 ?_
      obtain ⟨x9, ex9, hf⟩ := jn_s hf
      refine j_istore_n (pc := 32) X dL_width_32 (Nat.le_of_ble_eq_true rfl) (lv' := [some (.ref (al 1)), some (.long a1), none, some (.int x9), some (.int x6)]) (by rw [ex9]; rfl) ?_
      refine j_iinc (pc := 33) X dL_width_33 rfl (v := x6 + (-1)) (by rw [kcL_m1]) (Nat.le_of_ble_eq_true rfl) (lv' := [some (.ref (al 1)), some (.long a1), none, some (.int x9), some (.int (x6 + (-1)))]) rfl ?_
      refine j_goto (tgt := 10) (pc := 36) X dL_width_36 rfl ?_
      exact ih _ _ hf
set_option maxHeartbeats 4000000 in
set_option maxRecDepth 100000 in
theorem t_L_width {g : kG} {cI cS cJ : ClassId} {al : Nat → Nat} {C : kS} (X : Kx g cI cS cL_width RL wsL_width 5 rm_L_width) (hE : kE g.2.2.2.1 cJ g.1.2.2.2.2) {r : Int32} (hR : eI g 5 cL_width .int (WL3 cI cJ al C) r) (N : Nat) (a1 : Int64) (hf : f_L_width N C a1 = some r) : JA g (WL3 cI cJ al C) 5 0 [some (.ref (al 1)), some (.long a1), none, none, none] [] := by
  unfold f_L_width at hf
  refine j_iconst (pc := 0) X dL_width_0 kcL_0 ?_
  refine j_istore_n (pc := 1) X dL_width_1 (Nat.le_of_ble_eq_true rfl) (lv' := [some (.ref (al 1)), some (.long a1), none, some (.int 0), none]) rfl ?_
  refine j_lload_n (pc := 2) X dL_width_2 rfl ?_
  obtain ⟨r2, h1, hf⟩ := kB hf
  refine j_callP (pc := 3) X (c_L_length N a1 h1) gL_width_L_length rfl ⟨rfl, rfl⟩ hd_L_length ⟨(Nat.le_of_ble_eq_true rfl), (Nat.le_of_ble_eq_true rfl)⟩ rfl (Nat.le_of_ble_eq_true rfl) rfl dL_width_3 ?_
  refine j_iconst (pc := 6) X dL_width_6 kcL_1 ?_
  refine j_isub (pc := 7) X dL_width_7 ?_
  refine j_istore (pc := 8) X dL_width_8 (Nat.le_of_ble_eq_true rfl) (lv' := [some (.ref (al 1)), some (.long a1), none, some (.int 0), some (.int (r2 - 1))]) rfl ?_
  obtain ⟨k39_3, ek39_3, hf⟩ := jn_s hf
  have hk39_3 : ∀ (x3 : Int32), k39_3 x3 = some r → JA g (WL3 cI cJ al C) 5 39 [some (.ref (al 1)), some (.long a1), none, some (.int x3), none] [] := by
    intro x3 hf
    have hf := jE1 ek39_3 hf
    refine j_iload_n (pc := 39) X dL_width_39 rfl ?_
    exact a_retI hR dL_width_40 hf
  exact lt_L_width_10 X hE hR N a1 k39_3 hk39_3 N _ _ hf
theorem c_L_width {l : Launch} {D : va_G} {cI cS cJ : ClassId} {al : Nat → Nat} (N : Nat) (C : kS) (a1 : Int64) {r : Int32} (hf : f_L_width N C a1 = some r) : mIL l yL_width wsL_width rm_L_width D cI cS (WL3 cI cJ al C) (kE D cJ) [.ref (al 1), .long a1] r :=
  mIL.of (by decide) rfl (Nat.le_of_ble_eq_true rfl) (fun g X hE e hR => by subst e; exact t_L_width X hE hR N a1 hf)
abbrev rm_L_form : Room := { frames := 1, cells := 0, slots := 0, locals := 22 }
theorem hd_L_form : kHd yL_form 3 := by decide +kernel
set_option maxHeartbeats 4000000 in
set_option maxRecDepth 100000 in
theorem t_L_form {g : kG} {cI cS cJ : ClassId} {al : Nat → Nat} {C : kS} (X : Kx g cI cS cL_form RL wsL_form 6 rm_L_form) (hE : kE g.2.2.2.1 cJ g.1.2.2.2.2) {r : Int64} (hR : eL g 6 cL_form (WL3 cI cJ al C) r) (N : Nat) (a2 : Int32) (hf : f_L_form N C a2 = some r) : JA g (WL3 cI cJ al C) 6 0 [some (.ref (al 0)), some (.ref (al 2)), some (.int a2), none, none, none] [] := by
  unfold f_L_form at hf
  refine j_iload_n (pc := 0) X dL_form_0 rfl ?_
  refine j_iconst (pc := 1) X dL_form_1 kcL_3 ?_
  obtain ⟨z1, hf⟩ := gNz_s hf
  refine j_irem (pc := 2) X dL_form_2 z1 ?_
  refine j_iconst (pc := 3) X dL_form_3 kcL_1 ?_
  refine j_isub (pc := 4) X dL_form_4 ?_
  refine j_istore_n (pc := 5) X dL_form_5 (Nat.le_of_ble_eq_true rfl) (lv' := [some (.ref (al 0)), some (.ref (al 2)), some (.int a2), some (.int ((a2 - a2 / 3 * 3) - 1)), none, none]) rfl ?_
  refine j_iload_n (pc := 6) X dL_form_6 rfl ?_
  refine j_iconst (pc := 7) X dL_form_7 kcL_3 ?_
  obtain ⟨z2, hf⟩ := gNz_s hf
  refine j_idiv (pc := 8) X dL_form_8 z2 ?_
  refine j_aload_n (pc := 9) X dL_form_9 rfl ?_
  refine j_bipush (pc := 10) X dL_form_10 kbL_6 ?_
  obtain ⟨b3, hf⟩ := gIn_s hf
  refine a_iald (pc := 12) X w3_0 b3 dL_form_12 ?_
  refine j_icmp_ge (tgt := 24) (pc := 13) X dL_form_13 rfl (fun c4 => ?_) (fun c4 => ?_)
  · have hf := kT c4 hf
    refine j_lconst (pc := 24) X dL_form_24 klL_0 ?_
    exact a_retL hR dL_form_25 hf
  · have hf := kF c4 hf
    refine j_iload_n (pc := 16) X dL_form_16 rfl ?_
    refine j_aload_n (pc := 17) X dL_form_17 rfl ?_
    refine j_bipush (pc := 18) X dL_form_18 kbL_7 ?_
    obtain ⟨b5, hf⟩ := gIn_s hf
    refine a_iald (pc := 20) X w3_0 b5 dL_form_20 ?_
    refine j_icmp_lt (tgt := 26) (pc := 21) X dL_form_21 rfl (fun c6 => ?_) (fun c6 => ?_)
    · have hf := kT c6 hf
      refine j_aload_n (pc := 26) X dL_form_26 rfl ?_
      refine j_bipush (pc := 27) X dL_form_27 kbL_8 ?_
      refine j_iload_n (pc := 29) X dL_form_29 rfl ?_
      refine j_iconst (pc := 30) X dL_form_30 kcL_3 ?_
      obtain ⟨z7, hf⟩ := gNz_s hf
      refine j_idiv (pc := 31) X dL_form_31 z7 ?_
      refine j_iadd (pc := 32) X dL_form_32 ?_
      obtain ⟨b8, hf⟩ := gIn_s hf
      refine a_lald (pc := 33) X hE w3_2 b8 dL_form_33 ?_
      refine j_lstore (pc := 34) X dL_form_34 (Nat.le_of_ble_eq_true rfl) (lv' := [some (.ref (al 0)), some (.ref (al 2)), some (.int a2), some (.int ((a2 - a2 / 3 * 3) - 1)), some (.long ((C 2 (8 + (a2 / 3)).toNatClampNeg).toInt64)), none]) rfl ?_
      refine j_iload_n (pc := 36) X dL_form_36 rfl ?_
      obtain ⟨j66_9, ej66_9, hf⟩ := jn_s hf
      have hj66_9 : ∀ (t9 : Int64), j66_9 t9 = some r → JA g (WL3 cI cJ al C) 6 66 [some (.ref (al 0)), some (.ref (al 2)), some (.int a2), some (.int ((a2 - a2 / 3 * 3) - 1)), some (.long ((C 2 (8 + (a2 / 3)).toNatClampNeg).toInt64)), none] [.long t9] := by
        intro t9 hf
        have hf := jE1 ej66_9 hf
        exact a_retL hR dL_form_66 hf
      refine j_if_ge (tgt := 45) (pc := 37) X dL_form_37 rfl (fun c11 => ?_) (fun c11 => ?_)
      · have hf := kT c11 hf
        refine j_lload (pc := 45) X dL_form_45 rfl ?_
        refine j_iconst (pc := 47) X dL_form_47 kcL_5 ?_
        refine j_aload_n (pc := 48) X dL_form_48 rfl ?_
        refine j_bipush (pc := 49) X dL_form_49 kbL_12 ?_
        refine j_iload_n (pc := 51) X dL_form_51 rfl ?_
        refine j_iadd (pc := 52) X dL_form_52 ?_
        obtain ⟨b12, hf⟩ := gIn_s hf
        refine a_lald (pc := 53) X hE w3_2 b12 dL_form_53 ?_
        obtain ⟨r14, h13, hf⟩ := kB hf
        refine j_callP (pc := 54) X (c_L_length N ((C 2 (12 + ((a2 - a2 / 3 * 3) - 1)).toNatClampNeg).toInt64) h13) gL_form_L_length rfl ⟨rfl, rfl⟩ hd_L_length ⟨(Nat.le_of_ble_eq_true rfl), (Nat.le_of_ble_eq_true rfl)⟩ rfl (Nat.le_of_ble_eq_true rfl) rfl dL_form_54 ?_
        refine j_imul (pc := 57) X dL_form_57 ?_
        refine j_lshl (pc := 58) X dL_form_58 ?_
        refine j_aload_n (pc := 59) X dL_form_59 rfl ?_
        refine j_bipush (pc := 60) X dL_form_60 kbL_12 ?_
        refine j_iload_n (pc := 62) X dL_form_62 rfl ?_
        refine j_iadd (pc := 63) X dL_form_63 ?_
        obtain ⟨b15, hf⟩ := gIn_s hf
        refine a_lald (pc := 64) X hE w3_2 b15 dL_form_64 ?_
        refine j_lor (pc := 65) X dL_form_65 ?_
        exact hj66_9 _ hf
      · have hf := kF c11 hf
        refine j_lload (pc := 40) X dL_form_40 rfl ?_
        refine j_goto (tgt := 66) (pc := 42) X dL_form_42 rfl ?_
        exact hj66_9 _ hf
    · have hf := kF c6 hf
      refine j_lconst (pc := 24) X dL_form_24 klL_0 ?_
      exact a_retL hR dL_form_25 hf
theorem c_L_form {l : Launch} {D : va_G} {cI cS cJ : ClassId} {al : Nat → Nat} (N : Nat) (C : kS) (a2 : Int32) {r : Int64} (hf : f_L_form N C a2 = some r) : mLL l yL_form wsL_form rm_L_form D cI cS (WL3 cI cJ al C) (kE D cJ) [.ref (al 0), .ref (al 2), .int a2] r :=
  mLL.of (by decide) rfl (Nat.le_of_ble_eq_true rfl) (fun g X hE e hR => by subst e; exact t_L_form X hE hR N a2 hf)
