abbrev rm_L_bar : Room := { frames := 2, cells := 1, slots := 12, locals := 47 }
theorem lk_L_bar_0 : Cond.arrayClass .int ∈ wsL_bar := List.mem_of_getElem? (i := 1) rfl
theorem hd_L_bar : kHd yL_bar 6 := by decide +kernel
set_option maxHeartbeats 4000000 in
set_option maxRecDepth 100000 in
theorem lt_L_bar_77 {g : kG} {cI cS cJ : ClassId} {al : Nat → Nat} {cs sl : Nat} (X : Kx (gC g cs sl) cI cS cL_bar RL wsL_bar 12 rm_L_bar) (X0 : Kx g cI cS cL_bar RL wsL_bar 12 rm_L_bar) (hE : kE g.2.2.2.1 cJ g.1.2.2.2.2) (hA : g.2.2.1 = va_S (fun q => g.1.2.2.2.2.heap.size ≤ q) g.1.2.2.2.2.heap) (hI : kInj 3 al) {q3 : Nat} (hq3 : g.1.2.2.2.2.heap.size ≤ q3) (hD : ∀ z : kS, va_D (fun _ => True) (WLb cI cJ al q3 z)) {r : Int32} (hR : eA g 12 cL_bar .int r 1 12) (N : Nat) (a3 : Int32) (a4 : Int32) (a5 : Int32) (r4 : Int32) (x24 : Int32) (k144_29 : Int32 → Int32 → kS → Option (Int32)) (hk144_29 : ∀ (x27 : Int32) (x28 : Int32) (C29 : kS), k144_29 x27 x28 C29 = some r → JA (gC g cs sl) (WLb cI cJ al q3 C29) 12 144 [some (.ref (al 0)), some (.ref (al 1)), some (.ref (al 2)), some (.int a3), some (.int a4), some (.int a5), some (.int r4), some (.ref q3), some (.int x27), some (.int x28), some (.int x24), none] []) : ∀ (n : Nat) (x31 : Int32) (x32 : Int32) (x33 : Int32) (C34 : kS), lp_L_bar_77 N a5 x24 k144_29 n x31 x32 x33 C34 = some r → JA (gC g cs sl) (WLb cI cJ al q3 C34) 12 77 [some (.ref (al 0)), some (.ref (al 1)), some (.ref (al 2)), some (.int a3), some (.int a4), some (.int a5), some (.int r4), some (.ref q3), some (.int x31), some (.int x32), some (.int x24), some (.int x33)] [] := by
  intro n
  induction n with
  | zero =>
    intro x31 x32 x33 C34 hf
    rw [lp_L_bar_77] at hf
    cases hf
  | succ n ih =>
    intro x31 x32 x33 C34 hf
    rw [lp_L_bar_77] at hf
    refine j_iload (pc := 77) X dL_bar_77 rfl ?_
    refine j_bipush (pc := 79) X dL_bar_79 kbL_12 ?_
    refine j_icmp_ge (tgt := 144) (pc := 81) X dL_bar_81 rfl (fun c35 => ?_) (fun c35 => ?_)
    · have hf := kT c35 hf
      refine j_weak (lv' := [some (.ref (al 0)), some (.ref (al 1)), some (.ref (al 2)), some (.int a3), some (.int a4), some (.int a5), some (.int r4), some (.ref q3), some (.int x31), some (.int x32), some (.int x24), none]) (And.intro rfl (And.intro rfl (And.intro rfl (And.intro rfl (And.intro rfl (And.intro rfl (And.intro rfl (And.intro rfl (And.intro rfl (And.intro rfl (And.intro rfl trivial))))))))))) ?_
      exact hk144_29 _ _ _ hf
    · have hf := kF c35 hf
      refine j_aload_n (pc := 84) X dL_bar_84 rfl ?_
      refine j_aload_n (pc := 85) X dL_bar_85 rfl ?_
      refine j_iload (pc := 86) X dL_bar_86 rfl ?_
      obtain ⟨r37, h36, hf⟩ := kB hf
      refine a_callLL (pc := 88) X hE (c_L_form N C34 x33 h36) (fun _ h => P_l h) gL_bar_L_form rfl ⟨rfl, rfl⟩ hd_L_form ⟨(Nat.le_of_ble_eq_true rfl), (Nat.le_of_ble_eq_true rfl)⟩ rfl (Nat.le_of_ble_eq_true rfl) rfl dL_bar_88 ?_
      refine j_lconst (pc := 91) X dL_bar_91 klL_0 ?_
      refine j_lcmp (pc := 92) X dL_bar_92 ?_
      obtain ⟨j138_40, ej138_40, hf⟩ := jn_s hf
      have hj138_40 : ∀ (x38 : Int32) (x39 : Int32) (C40 : kS), j138_40 x38 x39 C40 = some r → JA (gC g cs sl) (WLb cI cJ al q3 C40) 12 138 [some (.ref (al 0)), some (.ref (al 1)), some (.ref (al 2)), some (.int a3), some (.int a4), some (.int a5), some (.int r4), some (.ref q3), some (.int x38), some (.int x39), some (.int x24), some (.int x33)] [] := by
        intro x38 x39 C40 hf
        have hf := jE3 ej138_40 hf
        refine j_iinc (pc := 138) X dL_bar_138 rfl (v := x33 + 1) (by rw [kcL_1]) (Nat.le_of_ble_eq_true rfl) (lv' := [some (.ref (al 0)), some (.ref (al 1)), some (.ref (al 2)), some (.int a3), some (.int a4), some (.int a5), some (.int r4), some (.ref q3), some (.int x38), some (.int x39), some (.int x24), some (.int (x33 + 1))]) rfl ?_
        refine j_goto (tgt := 77) (pc := 141) X dL_bar_141 rfl ?_
        exact ih _ _ _ _ hf
      refine j_if_le (tgt := 138) (pc := 93) X dL_bar_93 rfl (fun c42 => ?_) (fun c42 => ?_)
      · have hf := kT c42 hf
        exact hj138_40 _ _ _ hf
      · have hf := kF c42 hf
        refine j_aload_n (pc := 96) X dL_bar_96 rfl ?_
        refine j_aload_n (pc := 97) X dL_bar_97 rfl ?_
        refine j_aload_n (pc := 98) X dL_bar_98 rfl ?_
        refine j_iload (pc := 99) X dL_bar_99 rfl ?_
        obtain ⟨r44, h43, hf⟩ := kB hf
        refine a_callLL (pc := 101) X hE (c_L_form N C34 x33 h43) (fun _ h => P_l h) gL_bar_L_form rfl ⟨rfl, rfl⟩ hd_L_form ⟨(Nat.le_of_ble_eq_true rfl), (Nat.le_of_ble_eq_true rfl)⟩ rfl (Nat.le_of_ble_eq_true rfl) rfl dL_bar_101 ?_
        obtain ⟨r46, h45, hf⟩ := kB hf
        refine a_callIL (pc := 104) X hE (c_L_width N C34 r44 h45) (fun _ h => P_l h) gL_bar_L_width rfl ⟨rfl, rfl⟩ hd_L_width ⟨(Nat.le_of_ble_eq_true rfl), (Nat.le_of_ble_eq_true rfl)⟩ rfl (Nat.le_of_ble_eq_true rfl) rfl dL_bar_104 ?_
        refine j_iload (pc := 107) X dL_bar_107 rfl ?_
        refine j_icmp_ne (tgt := 138) (pc := 109) X dL_bar_109 rfl (fun c47 => ?_) (fun c47 => ?_)
        · have hf := kF c47 hf
          exact hj138_40 _ _ _ hf
        · have hf := kT c47 hf
          refine j_iload (pc := 112) X dL_bar_112 rfl ?_
          refine j_iload (pc := 114) X dL_bar_114 rfl ?_
          obtain ⟨j126_48, ej126_48, hf⟩ := jn_s hf
          have hj126_48 : ∀ (t48 : Int32), j126_48 t48 = some r → JA (gC g cs sl) (WLb cI cJ al q3 C34) 12 126 [some (.ref (al 0)), some (.ref (al 1)), some (.ref (al 2)), some (.int a3), some (.int a4), some (.int a5), some (.int r4), some (.ref q3), some (.int x31), some (.int x32), some (.int x24), some (.int x33)] [.int t48] := by
            intro t48 hf
            have hf := jE1 ej126_48 hf
            refine j_istore (pc := 126) X dL_bar_126 (Nat.le_of_ble_eq_true rfl) (lv' := [some (.ref (al 0)), some (.ref (al 1)), some (.ref (al 2)), some (.int a3), some (.int a4), some (.int a5), some (.int r4), some (.ref q3), some (.int x31), some (.int t48), some (.int x24), some (.int x33)]) rfl ?_
            refine j_aload (pc := 128) X dL_bar_128 rfl ?_
            refine j_iload (pc := 130) X dL_bar_130 rfl ?_
            refine j_iload (pc := 132) X dL_bar_132 rfl ?_
            obtain ⟨b50, hf⟩ := gIn_s hf
            obtain ⟨C51, eC51, hf⟩ := jn_s hf
            refine a_iast (W1 := (WLb cI cJ al q3 C51)) (pc := 134) X hA (hD _) hq3 wb_3 b50 dL_bar_134 (by rw [eC51]; exact sb_3 _) ?_
            refine j_iinc (pc := 135) X dL_bar_135 rfl (v := x31 + 1) (by rw [kcL_1]) (Nat.le_of_ble_eq_true rfl) (lv' := [some (.ref (al 0)), some (.ref (al 1)), some (.ref (al 2)), some (.int a3), some (.int a4), some (.int a5), some (.int r4), some (.ref q3), some (.int (x31 + 1)), some (.int t48), some (.int x24), some (.int x33)]) rfl ?_
            exact hj138_40 _ _ _ hf
          refine j_icmp_ne (tgt := 124) (pc := 116) X dL_bar_116 rfl (fun c52 => ?_) (fun c52 => ?_)
          · have hf := kF c52 hf
            refine j_iload (pc := 124) X dL_bar_124 rfl ?_
            exact hj126_48 _ hf
          · have hf := kT c52 hf
            refine j_iload (pc := 119) X dL_bar_119 rfl ?_
            refine j_goto (tgt := 126) (pc := 121) X dL_bar_121 rfl ?_
            exact hj126_48 _ hf
set_option maxHeartbeats 4000000 in
set_option maxRecDepth 100000 in
theorem lt_L_bar_67 {g : kG} {cI cS cJ : ClassId} {al : Nat → Nat} {cs sl : Nat} (X : Kx (gC g cs sl) cI cS cL_bar RL wsL_bar 12 rm_L_bar) (X0 : Kx g cI cS cL_bar RL wsL_bar 12 rm_L_bar) (hE : kE g.2.2.2.1 cJ g.1.2.2.2.2) (hA : g.2.2.1 = va_S (fun q => g.1.2.2.2.2.heap.size ≤ q) g.1.2.2.2.2.heap) (hI : kInj 3 al) {q3 : Nat} (hq3 : g.1.2.2.2.2.heap.size ≤ q3) (hD : ∀ z : kS, va_D (fun _ => True) (WLb cI cJ al q3 z)) {r : Int32} (hR : eA g 12 cL_bar .int r 1 12) (N : Nat) (a3 : Int32) (a4 : Int32) (a5 : Int32) (r4 : Int32) (k150_9 : Int32 → Int32 → kS → Option (Int32)) (hk150_9 : ∀ (x7 : Int32) (x8 : Int32) (C9 : kS), k150_9 x7 x8 C9 = some r → JA (gC g cs sl) (WLb cI cJ al q3 C9) 12 150 [some (.ref (al 0)), some (.ref (al 1)), some (.ref (al 2)), some (.int a3), some (.int a4), some (.int a5), some (.int r4), some (.ref q3), some (.int x7), some (.int x8), none, none] []) : ∀ (n : Nat) (x22 : Int32) (x23 : Int32) (x24 : Int32) (C25 : kS), lp_L_bar_67 N a5 k150_9 n x22 x23 x24 C25 = some r → JA (gC g cs sl) (WLb cI cJ al q3 C25) 12 67 [some (.ref (al 0)), some (.ref (al 1)), some (.ref (al 2)), some (.int a3), some (.int a4), some (.int a5), some (.int r4), some (.ref q3), some (.int x22), some (.int x23), some (.int x24), none] [] := by
  intro n
  induction n with
  | zero =>
    intro x22 x23 x24 C25 hf
    rw [lp_L_bar_67] at hf
    cases hf
  | succ n ih =>
    intro x22 x23 x24 C25 hf
    rw [lp_L_bar_67] at hf
    refine j_iload (pc := 67) X dL_bar_67 rfl ?_
    refine j_bipush (pc := 69) X dL_bar_69 kbL_120 ?_
    refine j_icmp_ge (tgt := 150) (pc := 71) X dL_bar_71 rfl (fun c26 => ?_) (fun c26 => ?_)
    · have hf := kT c26 hf
      refine j_weak (lv' := [some (.ref (al 0)), some (.ref (al 1)), some (.ref (al 2)), some (.int a3), some (.int a4), some (.int a5), some (.int r4), some (.ref q3), some (.int x22), some (.int x23), none, none]) (And.intro rfl (And.intro rfl (And.intro rfl (And.intro rfl (And.intro rfl (And.intro rfl (And.intro rfl (And.intro rfl (And.intro rfl (And.intro rfl trivial)))))))))) ?_
      exact hk150_9 _ _ _ hf
    · have hf := kF c26 hf
      refine j_iconst (pc := 74) X dL_bar_74 kcL_0 ?_
      refine j_istore (pc := 75) X dL_bar_75 (Nat.le_of_ble_eq_true rfl) (lv' := [some (.ref (al 0)), some (.ref (al 1)), some (.ref (al 2)), some (.int a3), some (.int a4), some (.int a5), some (.int r4), some (.ref q3), some (.int x22), some (.int x23), some (.int x24), some (.int 0)]) rfl ?_
      obtain ⟨k144_29, ek144_29, hf⟩ := jn_s hf
      have hk144_29 : ∀ (x27 : Int32) (x28 : Int32) (C29 : kS), k144_29 x27 x28 C29 = some r → JA (gC g cs sl) (WLb cI cJ al q3 C29) 12 144 [some (.ref (al 0)), some (.ref (al 1)), some (.ref (al 2)), some (.int a3), some (.int a4), some (.int a5), some (.int r4), some (.ref q3), some (.int x27), some (.int x28), some (.int x24), none] [] := by
        intro x27 x28 C29 hf
        have hf := jE3 ek144_29 hf
        refine j_iinc (pc := 144) X dL_bar_144 rfl (v := x24 + 1) (by rw [kcL_1]) (Nat.le_of_ble_eq_true rfl) (lv' := [some (.ref (al 0)), some (.ref (al 1)), some (.ref (al 2)), some (.int a3), some (.int a4), some (.int a5), some (.int r4), some (.ref q3), some (.int x27), some (.int x28), some (.int (x24 + 1)), none]) rfl ?_
        refine j_goto (tgt := 67) (pc := 147) X dL_bar_147 rfl ?_
        exact ih _ _ _ _ hf
      exact lt_L_bar_77 X X0 hE hA hI hq3 hD hR N a3 a4 a5 r4 x24 k144_29 hk144_29 N _ _ _ _ hf
set_option maxHeartbeats 4000000 in
set_option maxRecDepth 100000 in
theorem t_L_bar {g : kG} {cI cS cJ : ClassId} {al : Nat → Nat}  (X0 : Kx g cI cS cL_bar RL wsL_bar 12 rm_L_bar) (hE : kE g.2.2.2.1 cJ g.1.2.2.2.2) (hA : g.2.2.1 = va_S (fun q => g.1.2.2.2.2.heap.size ≤ q) g.1.2.2.2.2.heap) (hI : kInj 3 al) {r : Int32} (hR : eA g 12 cL_bar .int r 1 12) (N : Nat) (C : kS) (a3 : Int32) (a4 : Int32) (a5 : Int32) (hf : f_L_bar N C a3 a4 a5 = some r) : JA (gC g 0 0) (WL3 cI cJ al C) 12 0 [some (.ref (al 0)), some (.ref (al 1)), some (.ref (al 2)), some (.int a3), some (.int a4), some (.int a5), none, none, none, none, none, none] [] := by
  unfold f_L_bar at hf
  have X := X0.gC (cs := 0) (sl := 0) (Nat.le_of_ble_eq_true rfl) (Nat.le_of_ble_eq_true rfl)
  have hD : ∀ z : kS, va_D (fun _ => True) (WL3 cI cJ al z) := fun z => WL3_D hI
  refine j_aload_n (pc := 0) X dL_bar_0 rfl ?_
  refine j_aload_n (pc := 1) X dL_bar_1 rfl ?_
  refine j_aload_n (pc := 2) X dL_bar_2 rfl ?_
  refine j_iload (pc := 3) X dL_bar_3 rfl ?_
  obtain ⟨r2, h1, hf⟩ := kB hf
  refine a_callLL (pc := 5) X hE (c_L_form N C a5 h1) (fun _ h => h) gL_bar_L_form rfl ⟨rfl, rfl⟩ hd_L_form ⟨(Nat.le_of_ble_eq_true rfl), (Nat.le_of_ble_eq_true rfl)⟩ rfl (Nat.le_of_ble_eq_true rfl) rfl dL_bar_5 ?_
  obtain ⟨r4, h3, hf⟩ := kB hf
  refine a_callIL (pc := 8) X hE (c_L_width N C r2 h3) (fun _ h => h) gL_bar_L_width rfl ⟨rfl, rfl⟩ hd_L_width ⟨(Nat.le_of_ble_eq_true rfl), (Nat.le_of_ble_eq_true rfl)⟩ rfl (Nat.le_of_ble_eq_true rfl) rfl dL_bar_8 ?_
  refine j_istore (pc := 11) X dL_bar_11 (Nat.le_of_ble_eq_true rfl) (lv' := [some (.ref (al 0)), some (.ref (al 1)), some (.ref (al 2)), some (.int a3), some (.int a4), some (.int a5), some (.int r4), none, none, none, none, none]) rfl ?_
  refine j_iload_n (pc := 13) X dL_bar_13 rfl ?_
  refine j_iconst (pc := 14) X dL_bar_14 kcL_2 ?_
  refine j_icmp_ge (tgt := 52) (pc := 15) X dL_bar_15 rfl (fun c5 => ?_) (fun c5 => ?_)
  · have hf := kT c5 hf
    refine j_bipush (pc := 52) X dL_bar_52 kbL_12 ?_
    refine a_newa (N := 12) (pc := 54) X hA (hD _) lk_L_bar_0 (by decide) (by decide) (by decide) (Nat.le_of_ble_eq_true rfl) (Nat.le_of_ble_eq_true rfl) dL_bar_54 (fun q3 hq3 hD => ?_)
    obtain ⟨C6, eC6, hf⟩ := jn_s hf
    rw [nw_b, ← eC6]
    have hD : ∀ z : kS, va_D (fun _ => True) (WLb cI cJ al q3 z) := fun z => D_of hD (WLb_fst (L := up1 C 3 (fun _ => 0)))
    have X := X0.gC (cs := 0 + 1) (sl := 0 + 12) (Nat.le_of_ble_eq_true rfl) (Nat.le_of_ble_eq_true rfl)
    refine j_astore (pc := 56) X dL_bar_56 (Nat.le_of_ble_eq_true rfl) (lv' := [some (.ref (al 0)), some (.ref (al 1)), some (.ref (al 2)), some (.int a3), some (.int a4), some (.int a5), some (.int r4), some (.ref q3), none, none, none, none]) rfl ?_
    refine j_iconst (pc := 58) X dL_bar_58 kcL_0 ?_
    refine j_istore (pc := 59) X dL_bar_59 (Nat.le_of_ble_eq_true rfl) (lv' := [some (.ref (al 0)), some (.ref (al 1)), some (.ref (al 2)), some (.int a3), some (.int a4), some (.int a5), some (.int r4), some (.ref q3), some (.int 0), none, none, none]) rfl ?_
    refine j_iconst (pc := 61) X dL_bar_61 kcL_0 ?_
    refine j_istore (pc := 62) X dL_bar_62 (Nat.le_of_ble_eq_true rfl) (lv' := [some (.ref (al 0)), some (.ref (al 1)), some (.ref (al 2)), some (.int a3), some (.int a4), some (.int a5), some (.int r4), some (.ref q3), some (.int 0), some (.int 0), none, none]) rfl ?_
    refine j_iconst (pc := 64) X dL_bar_64 kcL_1 ?_
    refine j_istore (pc := 65) X dL_bar_65 (Nat.le_of_ble_eq_true rfl) (lv' := [some (.ref (al 0)), some (.ref (al 1)), some (.ref (al 2)), some (.int a3), some (.int a4), some (.int a5), some (.int r4), some (.ref q3), some (.int 0), some (.int 0), some (.int 1), none]) rfl ?_
    obtain ⟨k150_9, ek150_9, hf⟩ := jn_s hf
    have hk150_9 : ∀ (x7 : Int32) (x8 : Int32) (C9 : kS), k150_9 x7 x8 C9 = some r → JA (gC g (0 + 1) (0 + 12)) (WLb cI cJ al q3 C9) 12 150 [some (.ref (al 0)), some (.ref (al 1)), some (.ref (al 2)), some (.int a3), some (.int a4), some (.int a5), some (.int r4), some (.ref q3), some (.int x7), some (.int x8), none, none] [] := by
      intro x7 x8 C9 hf
      have hf := jE3 ek150_9 hf
      refine j_iload_n (pc := 150) X dL_bar_150 rfl ?_
      refine j_iconst (pc := 151) X dL_bar_151 kcL_3 ?_
      obtain ⟨j172_11, ej172_11, hf⟩ := jn_s hf
      have hj172_11 : ∀ (t11 : Int32), j172_11 t11 = some r → JA (gC g (0 + 1) (0 + 12)) (WLb cI cJ al q3 C9) 12 172 [some (.ref (al 0)), some (.ref (al 1)), some (.ref (al 2)), some (.int a3), some (.int a4), some (.int a5), some (.int r4), some (.ref q3), some (.int x7), some (.int x8), none, none] [.int t11] := by
        intro t11 hf
        have hf := jE1 ej172_11 hf
        refine j_istore (pc := 172) X dL_bar_172 (Nat.le_of_ble_eq_true rfl) (lv' := [some (.ref (al 0)), some (.ref (al 1)), some (.ref (al 2)), some (.int a3), some (.int a4), some (.int a5), some (.int r4), some (.ref q3), some (.int x7), some (.int x8), some (.int t11), none]) rfl ?_
        refine j_aload (pc := 174) X dL_bar_174 rfl ?_
        refine j_iload (pc := 176) X dL_bar_176 rfl ?_
        refine j_aload_n (pc := 178) X dL_bar_178 rfl ?_
        refine j_iconst (pc := 179) X dL_bar_179 kcL_2 ?_
        obtain ⟨b13, hf⟩ := gIn_s hf
        refine a_iald (pc := 180) X wb_0 b13 dL_bar_180 ?_
        refine j_iadd (pc := 181) X dL_bar_181 ?_
        refine j_iload (pc := 182) X dL_bar_182 rfl ?_
        obtain ⟨j194_14, ej194_14, hf⟩ := jn_s hf
        have hj194_14 : ∀ (t14 : Int32), j194_14 t14 = some r → JA (gC g (0 + 1) (0 + 12)) (WLb cI cJ al q3 C9) 12 194 [some (.ref (al 0)), some (.ref (al 1)), some (.ref (al 2)), some (.int a3), some (.int a4), some (.int a5), some (.int r4), some (.ref q3), some (.int x7), some (.int x8), some (.int t11), none] [.int t14, .ref q3] := by
          intro t14 hf
          have hf := jE1 ej194_14 hf
          refine j_iconst (pc := 194) X dL_bar_194 kcL_1 ?_
          refine j_isub (pc := 195) X dL_bar_195 ?_
          obtain ⟨b16, hf⟩ := gIn_s hf
          refine a_iald (pc := 196) X wb_3 b16 dL_bar_196 ?_
          exact a_retAI hR (Nat.le_of_ble_eq_true rfl) (Nat.le_of_ble_eq_true rfl) dL_bar_197 hf
        refine j_icmp_le (tgt := 192) (pc := 184) X dL_bar_184 rfl (fun c17 => ?_) (fun c17 => ?_)
        · have hf := kT c17 hf
          refine j_iload (pc := 192) X dL_bar_192 rfl ?_
          exact hj194_14 _ hf
        · have hf := kF c17 hf
          refine j_iload (pc := 187) X dL_bar_187 rfl ?_
          refine j_goto (tgt := 194) (pc := 189) X dL_bar_189 rfl ?_
          exact hj194_14 _ hf
      refine j_icmp_ne (tgt := 160) (pc := 152) X dL_bar_152 rfl (fun c18 => ?_) (fun c18 => ?_)
      · have hf := kF c18 hf
        refine j_iload (pc := 160) X dL_bar_160 rfl ?_
        refine j_aload_n (pc := 162) X dL_bar_162 rfl ?_
        refine j_iconst (pc := 163) X dL_bar_163 kcL_2 ?_
        obtain ⟨b19, hf⟩ := gIn_s hf
        refine a_iald (pc := 164) X wb_0 b19 dL_bar_164 ?_
        obtain ⟨z20, hf⟩ := gNz_s hf
        refine j_idiv (pc := 165) X dL_bar_165 z20 ?_
        refine j_iconst (pc := 166) X dL_bar_166 kcL_1 ?_
        refine j_iadd (pc := 167) X dL_bar_167 ?_
        refine j_aload_n (pc := 168) X dL_bar_168 rfl ?_
        refine j_iconst (pc := 169) X dL_bar_169 kcL_2 ?_
        obtain ⟨b21, hf⟩ := gIn_s hf
        refine a_iald (pc := 170) X wb_0 b21 dL_bar_170 ?_
        refine j_imul (pc := 171) X dL_bar_171 ?_
        exact hj172_11 _ hf
      · have hf := kT c18 hf
        refine j_iload (pc := 155) X dL_bar_155 rfl ?_
        refine j_goto (tgt := 172) (pc := 157) X dL_bar_157 rfl ?_
        exact hj172_11 _ hf
    exact lt_L_bar_67 X X0 hE hA hI hq3 hD hR N a3 a4 a5 r4 k150_9 hk150_9 N _ _ _ _ hf
  · have hf := kF c5 hf
    refine j_iload_n (pc := 18) X dL_bar_18 rfl ?_
    obtain ⟨j51_53, ej51_53, hf⟩ := jn_s hf
    have hj51_53 : ∀ (t53 : Int32), j51_53 t53 = some r → JA (gC g 0 0) (WL3 cI cJ al C) 12 51 [some (.ref (al 0)), some (.ref (al 1)), some (.ref (al 2)), some (.int a3), some (.int a4), some (.int a5), some (.int r4), none, none, none, none, none] [.int t53] := by
      intro t53 hf
      have hf := jE1 ej51_53 hf
      exact a_retAI hR (Nat.le_of_ble_eq_true rfl) (Nat.le_of_ble_eq_true rfl) dL_bar_51 hf
    refine j_if_ne (tgt := 27) (pc := 19) X dL_bar_19 rfl (fun c55 => ?_) (fun c55 => ?_)
    · have hf := kF c55 hf
      refine j_iload (pc := 27) X dL_bar_27 rfl ?_
      refine j_iload (pc := 29) X dL_bar_29 rfl ?_
      obtain ⟨z56, hf⟩ := gNz_s hf
      refine j_irem (pc := 31) X dL_bar_31 z56 ?_
      refine j_if_ne (tgt := 40) (pc := 32) X dL_bar_32 rfl (fun c57 => ?_) (fun c57 => ?_)
      · have hf := kF c57 hf
        refine j_iload (pc := 40) X dL_bar_40 rfl ?_
        refine j_iload (pc := 42) X dL_bar_42 rfl ?_
        refine j_iload (pc := 44) X dL_bar_44 rfl ?_
        obtain ⟨z58, hf⟩ := gNz_s hf
        refine j_irem (pc := 46) X dL_bar_46 z58 ?_
        refine j_isub (pc := 47) X dL_bar_47 ?_
        refine j_iload (pc := 48) X dL_bar_48 rfl ?_
        refine j_iadd (pc := 50) X dL_bar_50 ?_
        exact hj51_53 _ hf
      · have hf := kT c57 hf
        refine j_iload (pc := 35) X dL_bar_35 rfl ?_
        refine j_goto (tgt := 51) (pc := 37) X dL_bar_37 rfl ?_
        exact hj51_53 _ hf
    · have hf := kT c55 hf
      refine j_iload (pc := 22) X dL_bar_22 rfl ?_
      refine j_goto (tgt := 51) (pc := 24) X dL_bar_24 rfl ?_
      exact hj51_53 _ hf
theorem c_L_bar {l : Launch} {D : va_G} {cI cS cJ : ClassId} {al : Nat → Nat} (hI : kInj 3 al) (N : Nat) (C : kS) (a3 : Int32) (a4 : Int32) (a5 : Int32) {r : Int32} (hf : f_L_bar N C a3 a4 a5 = some r) : mAL l yL_bar wsL_bar rm_L_bar D cI cS (WL3 cI cJ al C) (kE D cJ) [.ref (al 0), .ref (al 1), .ref (al 2), .int a3, .int a4, .int a5] r 1 12 :=
  mAL.of (by decide) rfl (Nat.le_of_ble_eq_true rfl) (fun g X hE e hA _ hR => by subst e; exact t_L_bar X hE hA hI hR N C a3 a4 a5 hf)
abbrev rm_L_formOf : Room := { frames := 2, cells := 0, slots := 0, locals := 47 }
theorem hd_L_formOf : kHd yL_formOf 3 := by decide +kernel
set_option maxHeartbeats 4000000 in
set_option maxRecDepth 100000 in
theorem lt_L_formOf_6 {g : kG} {cI cS cJ : ClassId} {al : Nat → Nat} {C : kS} (X : Kx g cI cS cL_formOf RL wsL_formOf 5 rm_L_formOf) (hE : kE g.2.2.2.1 cJ g.1.2.2.2.2) {r : Int32} (hR : eI g 5 cL_formOf .int (WL3 cI cJ al C) r) (N : Nat) (a2 : Int32) (k38_1 : Int32 → Option (Int32)) (hk38_1 : ∀ (x1 : Int32), k38_1 x1 = some r → JA g (WL3 cI cJ al C) 5 38 [some (.ref (al 0)), some (.ref (al 2)), some (.int a2), some (.int x1), none] []) : ∀ (n : Nat) (x3 : Int32) (x4 : Int32), lp_L_formOf_6 N C a2 k38_1 n x3 x4 = some r → JA g (WL3 cI cJ al C) 5 6 [some (.ref (al 0)), some (.ref (al 2)), some (.int a2), some (.int x3), some (.int x4)] [] := by
  intro n
  induction n with
  | zero =>
    intro x3 x4 hf
    rw [lp_L_formOf_6] at hf
    cases hf
  | succ n ih =>
    intro x3 x4 hf
    rw [lp_L_formOf_6] at hf
    refine j_iload (pc := 6) X dL_formOf_6 rfl ?_
    refine j_if_lt (tgt := 38) (pc := 8) X dL_formOf_8 rfl (fun c5 => ?_) (fun c5 => ?_)
    · have hf := kT c5 hf
      refine j_weak (lv' := [some (.ref (al 0)), some (.ref (al 2)), some (.int a2), some (.int x3), none]) (And.intro rfl (And.intro rfl (And.intro rfl (And.intro rfl trivial)))) ?_
      exact hk38_1 _ hf
    · have hf := kF c5 hf
      refine j_aload_n (pc := 11) X dL_formOf_11 rfl ?_
      refine j_aload_n (pc := 12) X dL_formOf_12 rfl ?_
      refine j_iload (pc := 13) X dL_formOf_13 rfl ?_
      obtain ⟨r7, h6, hf⟩ := kB hf
      refine a_callLL (pc := 15) X hE (c_L_form N C x4 h6) (fun _ h => h) gL_formOf_L_form rfl ⟨rfl, rfl⟩ hd_L_form ⟨(Nat.le_of_ble_eq_true rfl), (Nat.le_of_ble_eq_true rfl)⟩ rfl (Nat.le_of_ble_eq_true rfl) rfl dL_formOf_15 ?_
      refine j_aload_n (pc := 18) X dL_formOf_18 rfl ?_
      refine j_iload_n (pc := 19) X dL_formOf_19 rfl ?_
      obtain ⟨b8, hf⟩ := gIn_s hf
      refine a_lald (pc := 20) X hE w3_2 b8 dL_formOf_20 ?_
      refine j_lcmp (pc := 21) X dL_formOf_21 ?_
      obtain ⟨j31_9, ej31_9, hf⟩ := jn_s hf
      have hj31_9 : ∀ (t9 : Int32), j31_9 t9 = some r → JA g (WL3 cI cJ al C) 5 31 [some (.ref (al 0)), some (.ref (al 2)), some (.int a2), some (.int x3), some (.int x4)] [.int t9] := by
        intro t9 hf
        have hf := jE1 ej31_9 hf
        refine j_istore_n (pc := 31) X dL_formOf_31 (Nat.le_of_ble_eq_true rfl) (lv' := [some (.ref (al 0)), some (.ref (al 2)), some (.int a2), some (.int t9), some (.int x4)]) rfl ?_
        refine j_iinc (pc := 32) X dL_formOf_32 rfl (v := x4 + (-1)) (by rw [kcL_m1]) (Nat.le_of_ble_eq_true rfl) (lv' := [some (.ref (al 0)), some (.ref (al 2)), some (.int a2), some (.int t9), some (.int (x4 + (-1)))]) rfl ?_
        refine j_goto (tgt := 6) (pc := 35) X dL_formOf_35 rfl ?_
        exact ih _ _ hf
      refine j_if_ne (tgt := 30) (pc := 22) X dL_formOf_22 rfl (fun c11 => ?_) (fun c11 => ?_)
      · have hf := kF c11 hf
        refine j_iload_n (pc := 30) X dL_formOf_30 rfl ?_
        exact hj31_9 _ hf
      · have hf := kT c11 hf
        refine j_iload (pc := 25) X dL_formOf_25 rfl ?_
        refine j_goto (tgt := 31) (pc := 27) X dL_formOf_27 rfl ?_
        exact hj31_9 _ hf
set_option maxHeartbeats 4000000 in
set_option maxRecDepth 100000 in
theorem t_L_formOf {g : kG} {cI cS cJ : ClassId} {al : Nat → Nat} {C : kS} (X : Kx g cI cS cL_formOf RL wsL_formOf 5 rm_L_formOf) (hE : kE g.2.2.2.1 cJ g.1.2.2.2.2) {r : Int32} (hR : eI g 5 cL_formOf .int (WL3 cI cJ al C) r) (N : Nat) (a2 : Int32) (hf : f_L_formOf N C a2 = some r) : JA g (WL3 cI cJ al C) 5 0 [some (.ref (al 0)), some (.ref (al 2)), some (.int a2), none, none] [] := by
  unfold f_L_formOf at hf
  refine j_iconst (pc := 0) X dL_formOf_0 kcL_m1 ?_
  refine j_istore_n (pc := 1) X dL_formOf_1 (Nat.le_of_ble_eq_true rfl) (lv' := [some (.ref (al 0)), some (.ref (al 2)), some (.int a2), some (.int (-1)), none]) rfl ?_
  refine j_bipush (pc := 2) X dL_formOf_2 kbL_11 ?_
  refine j_istore (pc := 4) X dL_formOf_4 (Nat.le_of_ble_eq_true rfl) (lv' := [some (.ref (al 0)), some (.ref (al 2)), some (.int a2), some (.int (-1)), some (.int 11)]) rfl ?_
  obtain ⟨k38_1, ek38_1, hf⟩ := jn_s hf
  have hk38_1 : ∀ (x1 : Int32), k38_1 x1 = some r → JA g (WL3 cI cJ al C) 5 38 [some (.ref (al 0)), some (.ref (al 2)), some (.int a2), some (.int x1), none] [] := by
    intro x1 hf
    have hf := jE1 ek38_1 hf
    refine j_iload_n (pc := 38) X dL_formOf_38 rfl ?_
    exact a_retI hR dL_formOf_39 hf
  exact lt_L_formOf_6 X hE hR N a2 k38_1 hk38_1 N _ _ hf
theorem c_L_formOf {l : Launch} {D : va_G} {cI cS cJ : ClassId} {al : Nat → Nat} (N : Nat) (C : kS) (a2 : Int32) {r : Int32} (hf : f_L_formOf N C a2 = some r) : mIL l yL_formOf wsL_formOf rm_L_formOf D cI cS (WL3 cI cJ al C) (kE D cJ) [.ref (al 0), .ref (al 2), .int a2] r :=
  mIL.of (by decide) rfl (Nat.le_of_ble_eq_true rfl) (fun g X hE e hR => by subst e; exact t_L_formOf X hE hR N a2 hf)
abbrev rm_L_shown : Room := { frames := 3, cells := 1, slots := 12, locals := 78 }
theorem hd_L_shown : kHd yL_shown 6 := by decide +kernel
set_option maxHeartbeats 4000000 in
set_option maxRecDepth 100000 in
theorem t_L_shown {g : kG} {cI cS cJ : ClassId} {al : Nat → Nat} {C : kS}  (X0 : Kx g cI cS cL_shown RL wsL_shown 7 rm_L_shown) (hE : kE g.2.2.2.1 cJ g.1.2.2.2.2) (hA : g.2.2.1 = va_S (fun q => g.1.2.2.2.2.heap.size ≤ q) g.1.2.2.2.2.heap) (hI : kInj 3 al) {r : Int32} (hR : eA g 7 cL_shown .int r 1 12) (N : Nat) (a3 : Int32) (a4 : Int32) (a5 : Int32) (hf : f_L_shown N C a3 a4 a5 = some r) : JA (gC g 0 0) (WL3 cI cJ al C) 7 0 [some (.ref (al 0)), some (.ref (al 1)), some (.ref (al 2)), some (.int a3), some (.int a4), some (.int a5), none] [] := by
  unfold f_L_shown at hf
  have X := X0.gC (cs := 0) (sl := 0) (Nat.le_of_ble_eq_true rfl) (Nat.le_of_ble_eq_true rfl)
  have hD : ∀ z : kS, va_D (fun _ => True) (WL3 cI cJ al z) := fun z => WL3_D hI
  refine j_aload_n (pc := 0) X dL_shown_0 rfl ?_
  refine j_aload_n (pc := 1) X dL_shown_1 rfl ?_
  refine j_iload (pc := 2) X dL_shown_2 rfl ?_
  obtain ⟨r2, h1, hf⟩ := kB hf
  refine a_callIL (pc := 4) X hE (c_L_formOf N C a5 h1) (fun _ h => h) gL_shown_L_formOf rfl ⟨rfl, rfl⟩ hd_L_formOf ⟨(Nat.le_of_ble_eq_true rfl), (Nat.le_of_ble_eq_true rfl)⟩ rfl (Nat.le_of_ble_eq_true rfl) rfl dL_shown_4 ?_
  refine j_istore (pc := 7) X dL_shown_7 (Nat.le_of_ble_eq_true rfl) (lv' := [some (.ref (al 0)), some (.ref (al 1)), some (.ref (al 2)), some (.int a3), some (.int a4), some (.int a5), some (.int r2)]) rfl ?_
  refine j_iload (pc := 9) X dL_shown_9 rfl ?_
  obtain ⟨j36_3, ej36_3, hf⟩ := jn_s hf
  have hj36_3 : ∀ (t3 : Int32), j36_3 t3 = some r → JA (gC g (0 + 1) (0 + 12)) (WL3 cI cJ al C) 7 36 [some (.ref (al 0)), some (.ref (al 1)), some (.ref (al 2)), some (.int a3), some (.int a4), some (.int a5), some (.int r2)] [.int t3] := by
    intro t3 hf
    have hf := jE1 ej36_3 hf
    have X := X0.gC (cs := 0 + 1) (sl := 0 + 12) (Nat.le_of_ble_eq_true rfl) (Nat.le_of_ble_eq_true rfl)
    exact a_retAI hR (Nat.le_of_ble_eq_true rfl) (Nat.le_of_ble_eq_true rfl) dL_shown_36 hf
  refine j_if_ge (tgt := 25) (pc := 11) X dL_shown_11 rfl (fun c5 => ?_) (fun c5 => ?_)
  · have hf := kT c5 hf
    refine j_aload_n (pc := 25) X dL_shown_25 rfl ?_
    refine j_aload_n (pc := 26) X dL_shown_26 rfl ?_
    refine j_aload_n (pc := 27) X dL_shown_27 rfl ?_
    refine j_iload_n (pc := 28) X dL_shown_28 rfl ?_
    refine j_iload (pc := 29) X dL_shown_29 rfl ?_
    refine j_iload (pc := 31) X dL_shown_31 rfl ?_
    obtain ⟨r7, h6, hf⟩ := kB hf
    refine a_callAL (pc := 33) X hE hA (c_L_bar hI N C a3 a4 r2 h6) (fun _ h => h) gL_shown_L_bar rfl rfl rfl hd_L_bar ⟨(Nat.le_of_ble_eq_true rfl), (Nat.le_of_ble_eq_true rfl)⟩ rfl (Nat.le_of_ble_eq_true rfl) (Nat.le_of_ble_eq_true rfl) (Nat.le_of_ble_eq_true rfl) rfl dL_shown_33 ?_
    have X := X0.gC (cs := 0 + 1) (sl := 0 + 12) (Nat.le_of_ble_eq_true rfl) (Nat.le_of_ble_eq_true rfl)
    exact hj36_3 _ hf
  · have hf := kF c5 hf
    refine j_aload_n (pc := 14) X dL_shown_14 rfl ?_
    refine j_aload_n (pc := 15) X dL_shown_15 rfl ?_
    refine j_iload (pc := 16) X dL_shown_16 rfl ?_
    obtain ⟨b8, hf⟩ := gIn_s hf
    refine a_lald (pc := 18) X hE w3_2 b8 dL_shown_18 ?_
    obtain ⟨r10, h9, hf⟩ := kB hf
    refine a_callIL (pc := 19) X hE (c_L_width N C ((C 2 a5.toNatClampNeg).toInt64) h9) (fun _ h => h) gL_shown_L_width rfl ⟨rfl, rfl⟩ hd_L_width ⟨(Nat.le_of_ble_eq_true rfl), (Nat.le_of_ble_eq_true rfl)⟩ rfl (Nat.le_of_ble_eq_true rfl) rfl dL_shown_19 ?_
    refine j_goto (tgt := 36) (pc := 22) X dL_shown_22 rfl ?_
    refine a_widen (cs2 := 0 + 1) (sl2 := 0 + 12) (Nat.le_of_ble_eq_true rfl) (Nat.le_of_ble_eq_true rfl) ?_
    exact hj36_3 _ hf
theorem c_L_shown {l : Launch} {D : va_G} {cI cS cJ : ClassId} {al : Nat → Nat} (hI : kInj 3 al) (N : Nat) (C : kS) (a3 : Int32) (a4 : Int32) (a5 : Int32) {r : Int32} (hf : f_L_shown N C a3 a4 a5 = some r) : mAL l yL_shown wsL_shown rm_L_shown D cI cS (WL3 cI cJ al C) (kE D cJ) [.ref (al 0), .ref (al 1), .ref (al 2), .int a3, .int a4, .int a5] r 1 12 :=
  mAL.of (by decide) rfl (Nat.le_of_ble_eq_true rfl) (fun g X hE e hA _ hR => by subst e; exact t_L_shown X hE hA hI hR N a3 a4 a5 hf)
abbrev rm_L_under : Room := { frames := 3, cells := 13, slots := 156, locals := 78 }
theorem hd_L_under : kHd yL_under 6 := by decide +kernel
set_option maxHeartbeats 4000000 in
set_option maxRecDepth 100000 in
theorem lt_L_under_6 {g : kG} {cI cS cJ : ClassId} {al : Nat → Nat} {C : kS}  (X0 : Kx g cI cS cL_under RL wsL_under 8 rm_L_under) (hE : kE g.2.2.2.1 cJ g.1.2.2.2.2) (hA : g.2.2.1 = va_S (fun q => g.1.2.2.2.2.heap.size ≤ q) g.1.2.2.2.2.heap) (hI : kInj 3 al) (hD : ∀ z : kS, va_D (fun _ => True) (WL3 cI cJ al z)) {r : Int32} (hR : eA g 8 cL_under .int r 13 156) (N : Nat) (a3 : Int32) (a4 : Int32) (a5 : Int32) (k62_1 : Int32 → Option (Int32)) (hk62_1 : ∀ (x1 : Int32), k62_1 x1 = some r → JA (gC g 13 156) (WL3 cI cJ al C) 8 62 [some (.ref (al 0)), some (.ref (al 1)), some (.ref (al 2)), some (.int a3), some (.int a4), some (.int a5), some (.int x1), none] []) : ∀ (n : Nat) (x3 : Int32) (x4 : Int32) (cs sl : Nat) (hcs : cs + n * 1 ≤ 13) (hsl : sl + n * 12 ≤ 156), lp_L_under_6 N C a3 a4 a5 k62_1 n x3 x4 = some r → JA (gC g cs sl) (WL3 cI cJ al C) 8 6 [some (.ref (al 0)), some (.ref (al 1)), some (.ref (al 2)), some (.int a3), some (.int a4), some (.int a5), some (.int x3), some (.int x4)] [] := by
  intro n
  induction n with
  | zero =>
    intro x3 x4 cs sl hcs hsl hf
    rw [lp_L_under_6] at hf
    cases hf
  | succ n ih =>
    intro x3 x4 cs sl hcs hsl hf
    rw [lp_L_under_6] at hf
    have X := X0.gC (cs := cs) (sl := sl) (by show cs ≤ 13; omega) (by show sl ≤ 156; omega)
    refine j_iload (pc := 6) X dL_under_6 rfl ?_
    refine j_bipush (pc := 8) X dL_under_8 kbL_12 ?_
    refine j_icmp_ge (tgt := 62) (pc := 10) X dL_under_10 rfl (fun c5 => ?_) (fun c5 => ?_)
    · have hf := kT c5 hf
      refine j_weak (lv' := [some (.ref (al 0)), some (.ref (al 1)), some (.ref (al 2)), some (.int a3), some (.int a4), some (.int a5), some (.int x3), none]) (And.intro rfl (And.intro rfl (And.intro rfl (And.intro rfl (And.intro rfl (And.intro rfl (And.intro rfl trivial))))))) ?_
      refine a_widen (cs2 := 13) (sl2 := 156) (by omega) (by omega) ?_
      exact hk62_1 _ hf
    · have hf := kF c5 hf
      refine j_iload (pc := 13) X dL_under_13 rfl ?_
      refine j_aload_n (pc := 15) X dL_under_15 rfl ?_
      refine j_aload_n (pc := 16) X dL_under_16 rfl ?_
      refine j_iload (pc := 17) X dL_under_17 rfl ?_
      obtain ⟨r7, h6, hf⟩ := kB hf
      refine a_callLL (pc := 19) X hE (c_L_form N C x4 h6) (fun _ h => h) gL_under_L_form rfl ⟨rfl, rfl⟩ hd_L_form ⟨(Nat.le_of_ble_eq_true rfl), (Nat.le_of_ble_eq_true rfl)⟩ rfl (Nat.le_of_ble_eq_true rfl) rfl dL_under_19 ?_
      refine j_lconst (pc := 22) X dL_under_22 klL_0 ?_
      refine j_lcmp (pc := 23) X dL_under_23 ?_
      obtain ⟨j53_8, ej53_8, hf⟩ := jn_s hf
      have hj53_8 : ∀ (t8 : Int32), j53_8 t8 = some r → JA (gC g (cs + 1) (sl + 12)) (WL3 cI cJ al C) 8 53 [some (.ref (al 0)), some (.ref (al 1)), some (.ref (al 2)), some (.int a3), some (.int a4), some (.int a5), some (.int x3), some (.int x4)] [.int t8, .int x3] := by
        intro t8 hf
        have hf := jE1 ej53_8 hf
        have X := X0.gC (cs := cs + 1) (sl := sl + 12) (by show cs + 1 ≤ 13; omega) (by show sl + 12 ≤ 156; omega)
        refine j_ior (pc := 53) X dL_under_53 ?_
        refine j_istore (pc := 54) X dL_under_54 (Nat.le_of_ble_eq_true rfl) (lv' := [some (.ref (al 0)), some (.ref (al 1)), some (.ref (al 2)), some (.int a3), some (.int a4), some (.int a5), some (.int (x3 ||| t8)), some (.int x4)]) rfl ?_
        refine j_iinc (pc := 56) X dL_under_56 rfl (v := x4 + 1) (by rw [kcL_1]) (Nat.le_of_ble_eq_true rfl) (lv' := [some (.ref (al 0)), some (.ref (al 1)), some (.ref (al 2)), some (.int a3), some (.int a4), some (.int a5), some (.int (x3 ||| t8)), some (.int (x4 + 1))]) rfl ?_
        refine j_goto (tgt := 6) (pc := 59) X dL_under_59 rfl ?_
        exact ih _ _ (cs + 1) (sl + 12) (by omega) (by omega) hf
      obtain ⟨j52_9, ej52_9, hf⟩ := jn_s hf
      have hj52_9 : ∀ (_ : Unit), j52_9 = some r → JA (gC g (cs + 1) (sl + 12)) (WL3 cI cJ al C) 8 52 [some (.ref (al 0)), some (.ref (al 1)), some (.ref (al 2)), some (.int a3), some (.int a4), some (.int a5), some (.int x3), some (.int x4)] [.int x3] := by
        intro _ hf
        have hf := jE0 ej52_9 hf
        have X := X0.gC (cs := cs + 1) (sl := sl + 12) (by show cs + 1 ≤ 13; omega) (by show sl + 12 ≤ 156; omega)
        refine j_iconst (pc := 52) X dL_under_52 kcL_0 ?_
        exact hj53_8 _ hf
      refine j_if_le (tgt := 52) (pc := 24) X dL_under_24 rfl (fun c11 => ?_) (fun c11 => ?_)
      · have hf := kT c11 hf
        refine a_widen (cs2 := cs + 1) (sl2 := sl + 12) (by omega) (by omega) ?_
        exact hj52_9 () hf
      · have hf := kF c11 hf
        refine j_aload_n (pc := 27) X dL_under_27 rfl ?_
        refine j_aload_n (pc := 28) X dL_under_28 rfl ?_
        refine j_aload_n (pc := 29) X dL_under_29 rfl ?_
        refine j_iload_n (pc := 30) X dL_under_30 rfl ?_
        refine j_iload (pc := 31) X dL_under_31 rfl ?_
        refine j_iload (pc := 33) X dL_under_33 rfl ?_
        obtain ⟨r13, h12, hf⟩ := kB hf
        refine a_callAL (pc := 35) X hE hA (c_L_bar hI N C a3 a4 x4 h12) (fun _ h => h) gL_under_L_bar rfl rfl rfl hd_L_bar ⟨(Nat.le_of_ble_eq_true rfl), (Nat.le_of_ble_eq_true rfl)⟩ rfl (by show cs + 1 ≤ 13; omega) (by show sl + 12 ≤ 156; omega) (Nat.le_of_ble_eq_true rfl) rfl dL_under_35 ?_
        have X := X0.gC (cs := cs + 1) (sl := sl + 12) (by show cs + 1 ≤ 13; omega) (by show sl + 12 ≤ 156; omega)
        refine j_iload (pc := 38) X dL_under_38 rfl ?_
        refine j_icmp_ne (tgt := 52) (pc := 40) X dL_under_40 rfl (fun c14 => ?_) (fun c14 => ?_)
        · have hf := kF c14 hf
          exact hj52_9 () hf
        · have hf := kT c14 hf
          refine j_iconst (pc := 43) X dL_under_43 kcL_1 ?_
          refine j_iload (pc := 44) X dL_under_44 rfl ?_
          refine j_iconst (pc := 46) X dL_under_46 kcL_3 ?_
          obtain ⟨z15, hf⟩ := gNz_s hf
          refine j_idiv (pc := 47) X dL_under_47 z15 ?_
          refine j_ishl (pc := 48) X dL_under_48 ?_
          refine j_goto (tgt := 53) (pc := 49) X dL_under_49 rfl ?_
          exact hj53_8 _ hf
set_option maxHeartbeats 4000000 in
set_option maxRecDepth 100000 in
theorem t_L_under {g : kG} {cI cS cJ : ClassId} {al : Nat → Nat} {C : kS}  (X0 : Kx g cI cS cL_under RL wsL_under 8 rm_L_under) (hE : kE g.2.2.2.1 cJ g.1.2.2.2.2) (hA : g.2.2.1 = va_S (fun q => g.1.2.2.2.2.heap.size ≤ q) g.1.2.2.2.2.heap) (hI : kInj 3 al) {r : Int32} (hR : eA g 8 cL_under .int r 13 156) (N : Nat) (a3 : Int32) (a4 : Int32) (a5 : Int32) (hf : f_L_under N C a3 a4 a5 = some r) : JA (gC g 0 0) (WL3 cI cJ al C) 8 0 [some (.ref (al 0)), some (.ref (al 1)), some (.ref (al 2)), some (.int a3), some (.int a4), some (.int a5), none, none] [] := by
  unfold f_L_under at hf
  have X := X0.gC (cs := 0) (sl := 0) (Nat.le_of_ble_eq_true rfl) (Nat.le_of_ble_eq_true rfl)
  have hD : ∀ z : kS, va_D (fun _ => True) (WL3 cI cJ al z) := fun z => WL3_D hI
  refine j_iconst (pc := 0) X dL_under_0 kcL_0 ?_
  refine j_istore (pc := 1) X dL_under_1 (Nat.le_of_ble_eq_true rfl) (lv' := [some (.ref (al 0)), some (.ref (al 1)), some (.ref (al 2)), some (.int a3), some (.int a4), some (.int a5), some (.int 0), none]) rfl ?_
  refine j_iconst (pc := 3) X dL_under_3 kcL_0 ?_
  refine j_istore (pc := 4) X dL_under_4 (Nat.le_of_ble_eq_true rfl) (lv' := [some (.ref (al 0)), some (.ref (al 1)), some (.ref (al 2)), some (.int a3), some (.int a4), some (.int a5), some (.int 0), some (.int 0)]) rfl ?_
  obtain ⟨k62_1, ek62_1, hf⟩ := jn_s hf
  have hk62_1 : ∀ (x1 : Int32), k62_1 x1 = some r → JA (gC g 13 156) (WL3 cI cJ al C) 8 62 [some (.ref (al 0)), some (.ref (al 1)), some (.ref (al 2)), some (.int a3), some (.int a4), some (.int a5), some (.int x1), none] [] := by
    intro x1 hf
    have hf := jE1 ek62_1 hf
    have X := X0.gC (cs := 13) (sl := 156) (Nat.le_of_ble_eq_true rfl) (Nat.le_of_ble_eq_true rfl)
    refine j_iload (pc := 62) X dL_under_62 rfl ?_
    exact a_retAI hR (Nat.le_of_ble_eq_true rfl) (Nat.le_of_ble_eq_true rfl) dL_under_64 hf
  exact lt_L_under_6 X0 hE hA hI hD hR N a3 a4 a5 k62_1 hk62_1 13 _ _ 0 0 (Nat.le_of_ble_eq_true rfl) (Nat.le_of_ble_eq_true rfl) hf
theorem c_L_under {l : Launch} {D : va_G} {cI cS cJ : ClassId} {al : Nat → Nat} (hI : kInj 3 al) (N : Nat) (C : kS) (a3 : Int32) (a4 : Int32) (a5 : Int32) {r : Int32} (hf : f_L_under N C a3 a4 a5 = some r) : mAL l yL_under wsL_under rm_L_under D cI cS (WL3 cI cJ al C) (kE D cJ) [.ref (al 0), .ref (al 1), .ref (al 2), .int a3, .int a4, .int a5] r 13 156 :=
  mAL.of (by decide) rfl (Nat.le_of_ble_eq_true rfl) (fun g X hE e hA _ hR => by subst e; exact t_L_under X hE hA hI hR N a3 a4 a5 hf)
abbrev rm_L_says : Room := { frames := 3, cells := 0, slots := 0, locals := 64 }
theorem lk_L_says_0 : Cond.constantLong RL 15 (31) ∈ wsL_says := List.mem_of_getElem? (i := 1) rfl
theorem hd_L_says : kHd yL_says 2 := by decide +kernel
set_option maxHeartbeats 4000000 in
set_option maxRecDepth 100000 in
theorem lt_L_says_10 {g : kG} {cI cS cJ : ClassId} {ad al : Nat → Nat} (X : Kx g cI cS cL_says RL wsL_says 5 rm_L_says) (hE : kE g.2.2.2.1 cJ g.1.2.2.2.2) (hA : g.2.2.1 = va_S (lwA ad al) g.1.2.2.2.2.heap) (hI : lwD ad al) (hD : ∀ z : kS × kS, va_D (fun _ => True) (WCL cI cS cJ ad al z)) {r : Int32} {pr : kS × kS} (hR : eI g 5 cL_says .boolean (WCL cI cS cJ ad al pr) r) (N : Nat) (a1 : Int64) (k52_4 : Int32 → kS × kS → Option (Int32 × (kS × kS))) (hk52_4 : ∀ (x3 : Int32) (p4 : kS × kS), k52_4 x3 p4 = some (r, pr) → JA g (WCL cI cS cJ ad al p4) 5 52 [some (.ref (ad 0)), some (.long a1), none, some (.int x3), none] []) : ∀ (n : Nat) (x6 : Int32) (x7 : Int32) (p8 : kS × kS), lp_L_says_10 N a1 k52_4 n x6 x7 p8 = some (r, pr) → JA g (WCL cI cS cJ ad al p8) 5 10 [some (.ref (ad 0)), some (.long a1), none, some (.int x6), some (.int x7)] [] := by
  intro n
  induction n with
  | zero =>
    intro x6 x7 p8 hf
    rw [lp_L_says_10] at hf
    cases hf
  | succ n ih =>
    intro x6 x7 p8 hf
    rw [lp_L_says_10] at hf
    refine j_iload (pc := 10) X dL_says_10 rfl ?_
    refine j_if_lt (tgt := 52) (pc := 12) X dL_says_12 rfl (fun c9 => ?_) (fun c9 => ?_)
    · have hf := kT c9 hf
      refine j_weak (lv' := [some (.ref (ad 0)), some (.long a1), none, some (.int x6), none]) (And.intro rfl (And.intro rfl (And.intro rfl trivial))) ?_
      exact hk52_4 _ _ hf
    · have hf := kF c9 hf
      refine j_iload_n (pc := 15) X dL_says_15 rfl ?_
      obtain ⟨j45_11, ej45_11, hf⟩ := jn_s hf
      have hj45_11 : ∀ (t10 : Int32) (p11 : kS × kS), j45_11 t10 p11 = some (r, pr) → JA g (WCL cI cS cJ ad al p11) 5 45 [some (.ref (ad 0)), some (.long a1), none, some (.int x6), some (.int x7)] [.int t10] := by
        intro t10 p11 hf
        have hf := jE2 ej45_11 hf
        refine j_istore_n (pc := 45) X dL_says_45 (Nat.le_of_ble_eq_true rfl) (lv' := [some (.ref (ad 0)), some (.long a1), none, some (.int t10), some (.int x7)]) rfl ?_
        refine j_iinc (pc := 46) X dL_says_46 rfl (v := x7 + (-1)) (by rw [kcL_m1]) (Nat.le_of_ble_eq_true rfl) (lv' := [some (.ref (ad 0)), some (.long a1), none, some (.int t10), some (.int (x7 + (-1)))]) rfl ?_
        refine j_goto (tgt := 10) (pc := 49) X dL_says_49 rfl ?_
        exact ih _ _ _ hf
      obtain ⟨j44_13, ej44_13, hf⟩ := jn_s hf
      have hj44_13 : ∀ (p13 : kS × kS), j44_13 p13 = some (r, pr) → JA g (WCL cI cS cJ ad al p13) 5 44 [some (.ref (ad 0)), some (.long a1), none, some (.int x6), some (.int x7)] [] := by
        intro p13 hf
        have hf := jE1 ej44_13 hf
        refine j_iconst (pc := 44) X dL_says_44 kcL_0 ?_
        exact hj45_11 _ _ hf
      refine j_if_eq (tgt := 44) (pc := 16) X dL_says_16 rfl (fun c15 => ?_) (fun c15 => ?_)
      · have hf := kT c15 hf
        exact hj44_13 _ hf
      · have hf := kF c15 hf
        refine j_aload_n (pc := 19) X dL_says_19 rfl ?_
        refine j_bipush (pc := 20) X dL_says_20 kbL_96 ?_
        refine j_lload_n (pc := 22) X dL_says_22 rfl ?_
        refine j_iconst (pc := 23) X dL_says_23 kcL_5 ?_
        refine j_iload (pc := 24) X dL_says_24 rfl ?_
        refine j_imul (pc := 26) X dL_says_26 ?_
        refine j_lshr (pc := 27) X dL_says_27 ?_
        refine j_ldc2 (pc := 28) X lk_L_says_0 dL_says_28 ?_
        refine j_land (pc := 31) X dL_says_31 ?_
        refine j_l2i (pc := 32) X dL_says_32 ?_
        refine j_iadd (pc := 33) X dL_says_33 ?_
        obtain ⟨r17, h16, hf⟩ := kB hf
        refine a_cW (pc := 34) X hA hI (c_X8_type hI.1 N p8.1 (96 + (((a1 >>> ((5 * x7).toInt64 &&& 63)) &&& (31 : Int64)).toInt32)) h16) gL_says_X8_type rfl ⟨rfl, rfl⟩ rfl hd_X8_type ⟨(Nat.le_of_ble_eq_true rfl), (Nat.le_of_ble_eq_true rfl)⟩ rfl (Nat.le_of_ble_eq_true rfl) rfl dL_says_34 ?_
        obtain ⟨p18, ep18, hf⟩ := jn_s hf
        rw [← ep18]
        refine j_if_le (tgt := 44) (pc := 37) X dL_says_37 rfl (fun c19 => ?_) (fun c19 => ?_)
        · have hf := kT c19 hf
          exact hj44_13 _ hf
        · have hf := kF c19 hf
          refine j_iconst (pc := 40) X dL_says_40 kcL_1 ?_
          refine j_goto (tgt := 45) (pc := 41) X dL_says_41 rfl ?_
          exact hj45_11 _ _ hf
set_option maxHeartbeats 4000000 in
set_option maxRecDepth 100000 in
theorem t_L_says {g : kG} {cI cS cJ : ClassId} {ad al : Nat → Nat} (X : Kx g cI cS cL_says RL wsL_says 5 rm_L_says) (hE : kE g.2.2.2.1 cJ g.1.2.2.2.2) (hA : g.2.2.1 = va_S (lwA ad al) g.1.2.2.2.2.heap) (hI : lwD ad al) {r : Int32} {pr : kS × kS} (hR : eI g 5 cL_says .boolean (WCL cI cS cJ ad al pr) r) (N : Nat) (p : kS × kS) (a1 : Int64) (hf : f_L_says N p a1 = some (r, pr)) : JA g (WCL cI cS cJ ad al p) 5 0 [some (.ref (ad 0)), some (.long a1), none, none, none] [] := by
  unfold f_L_says at hf
  have hD : ∀ z : kS × kS, va_D (fun _ => True) (WCL cI cS cJ ad al z) := fun z => WCL_D hI
  refine j_iconst (pc := 0) X dL_says_0 kcL_1 ?_
  refine j_istore_n (pc := 1) X dL_says_1 (Nat.le_of_ble_eq_true rfl) (lv' := [some (.ref (ad 0)), some (.long a1), none, some (.int 1), none]) rfl ?_
  refine j_lload_n (pc := 2) X dL_says_2 rfl ?_
  obtain ⟨r2, h1, hf⟩ := kB hf
  refine j_callP (pc := 3) X (c_L_length N a1 h1) gL_says_L_length rfl ⟨rfl, rfl⟩ hd_L_length ⟨(Nat.le_of_ble_eq_true rfl), (Nat.le_of_ble_eq_true rfl)⟩ rfl (Nat.le_of_ble_eq_true rfl) rfl dL_says_3 ?_
  refine j_iconst (pc := 6) X dL_says_6 kcL_1 ?_
  refine j_isub (pc := 7) X dL_says_7 ?_
  refine j_istore (pc := 8) X dL_says_8 (Nat.le_of_ble_eq_true rfl) (lv' := [some (.ref (ad 0)), some (.long a1), none, some (.int 1), some (.int (r2 - 1))]) rfl ?_
  obtain ⟨k52_4, ek52_4, hf⟩ := jn_s hf
  have hk52_4 : ∀ (x3 : Int32) (p4 : kS × kS), k52_4 x3 p4 = some (r, pr) → JA g (WCL cI cS cJ ad al p4) 5 52 [some (.ref (ad 0)), some (.long a1), none, some (.int x3), none] [] := by
    intro x3 p4 hf
    have hf := jE2 ek52_4 hf
    refine j_iload_n (pc := 52) X dL_says_52 rfl ?_
    exact a_retWB (Wf := WCL cI cS cJ ad al) hR dL_says_53 hf
  exact lt_L_says_10 X hE hA hI hD hR N a1 k52_4 hk52_4 N _ _ _ hf
theorem c_L_says {l : Launch} {D : va_G} {cI cS cJ : ClassId} {ad al : Nat → Nat} (hI : lwD ad al) (N : Nat) (p : kS × kS) (a1 : Int64) {r : Int32} {pr : kS × kS} (hf : f_L_says N p a1 = some (r, pr)) : mWL l yL_says wsL_says rm_L_says D cI cS (WCL cI cS cJ ad al p) (WCL cI cS cJ ad al pr) (lwA ad al) (kE D cJ) [.ref (ad 0), .long a1] r :=
  mWL.of (by decide) rfl (Nat.le_of_ble_eq_true rfl) (fun g X hE e hA hR => by subst e; exact t_L_says X hE hA hI hR N p a1 hf)
