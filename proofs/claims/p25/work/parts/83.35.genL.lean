abbrev rm_L_isSo : Room := { frames := 5, cells := 128, slots := 1526, locals := 110 }
theorem lk_L_isSo_0 : Cond.arrayClass .int ∈ wsL_isSo := List.mem_of_getElem? (i := 1) rfl
theorem lk_L_isSo_1 : Cond.constantLong RL 15 (31) ∈ wsL_isSo := List.mem_of_getElem? (i := 2) rfl
theorem hd_L_isSo : kHd yL_isSo 4 := by decide +kernel
set_option maxHeartbeats 4000000 in
set_option maxRecDepth 100000 in
theorem lt_L_isSo_744 {g : kG} {cI cS cJ : ClassId} {ad al : Nat → Nat} {cs sl : Nat} (X : Kx (gC g cs sl) cI cS cL_isSo RL wsL_isSo 17 rm_L_isSo) (X0 : Kx g cI cS cL_isSo RL wsL_isSo 17 rm_L_isSo) (hE : kE g.2.2.2.1 cJ g.1.2.2.2.2) (hA : g.2.2.1 = va_S (fun q => g.1.2.2.2.2.heap.size ≤ q) g.1.2.2.2.2.heap) (hI : lwD ad al) {q4 : Nat} (hq4 : g.1.2.2.2.2.heap.size ≤ q4) {q5 : Nat} (hq5 : g.1.2.2.2.2.heap.size ≤ q5) (hD : ∀ z : kS × kS, va_D (fun _ => True) (WCL2 cI cS cJ ad al q4 q5 z)) {r : Int32} (hR : eA g 17 cL_isSo .boolean r 128 1526) (N : Nat) (x69 : Int32) (r75 : Int32) (r78 : Int32) (r82 : Int32) (t83 : Int32) (x85 : Int32) (x87 : Int32) (x94 : Int32) (x124 : Int32) (p130 : kS × kS) (k822_131 : Int32 → Option (Int32)) (hk822_131 : ∀ (x131 : Int32), k822_131 x131 = some r → JA (gC g cs sl) (WCL2 cI cS cJ ad al q4 q5 p130) 17 822 [some (.ref (ad 0)), some (.ref (al 0)), some (.ref (al 1)), some (.ref (al 2)), some (.ref q4), some (.ref q5), some (.int x85), some (.int x94), some (.int x87), some (.int x131), some (.int x69), some (.int r75), some (.int r78), some (.int r82), some (.int t83), some (.int x124), none] []) : ∀ (n : Nat) (x146 : Int32) (x147 : Int32), lp_L_isSo_744 N x69 r75 p130 k822_131 n x146 x147 = some r → JA (gC g cs sl) (WCL2 cI cS cJ ad al q4 q5 p130) 17 744 [some (.ref (ad 0)), some (.ref (al 0)), some (.ref (al 1)), some (.ref (al 2)), some (.ref q4), some (.ref q5), some (.int x85), some (.int x94), some (.int x87), some (.int x146), some (.int x69), some (.int r75), some (.int r78), some (.int r82), some (.int t83), some (.int x124), some (.int x147)] [] := by
  intro n
  induction n with
  | zero =>
    intro x146 x147 hf
    rw [lp_L_isSo_744] at hf
    cases hf
  | succ n ih =>
    intro x146 x147 hf
    rw [lp_L_isSo_744] at hf
    refine j_iload (pc := 744) X dL_isSo_744 rfl ?_
    refine j_aload_n (pc := 746) X dL_isSo_746 rfl ?_
    refine j_iload (pc := 747) X dL_isSo_747 rfl ?_
    obtain ⟨b148, hf⟩ := gIn_s hf
    refine a_lald (pc := 749) X hE wcm_2 b148 dL_isSo_749 ?_
    obtain ⟨r150, h149, hf⟩ := kB hf
    refine j_callP (pc := 750) X (c_L_length N ((p130.2 2 x69.toNatClampNeg).toInt64) h149) gL_isSo_L_length rfl ⟨rfl, rfl⟩ hd_L_length ⟨(Nat.le_of_ble_eq_true rfl), (Nat.le_of_ble_eq_true rfl)⟩ rfl (Nat.le_of_ble_eq_true rfl) rfl dL_isSo_750 ?_
    refine j_icmp_ge (tgt := 822) (pc := 753) X dL_isSo_753 rfl (fun c151 => ?_) (fun c151 => ?_)
    · have hf := kT c151 hf
      refine j_weak (lv' := [some (.ref (ad 0)), some (.ref (al 0)), some (.ref (al 1)), some (.ref (al 2)), some (.ref q4), some (.ref q5), some (.int x85), some (.int x94), some (.int x87), some (.int x146), some (.int x69), some (.int r75), some (.int r78), some (.int r82), some (.int t83), some (.int x124), none]) (And.intro rfl (And.intro rfl (And.intro rfl (And.intro rfl (And.intro rfl (And.intro rfl (And.intro rfl (And.intro rfl (And.intro rfl (And.intro rfl (And.intro rfl (And.intro rfl (And.intro rfl (And.intro rfl (And.intro rfl (And.intro rfl trivial)))))))))))))))) ?_
      exact hk822_131 _ hf
    · have hf := kF c151 hf
      refine j_iload (pc := 756) X dL_isSo_756 rfl ?_
      obtain ⟨j814_152, ej814_152, hf⟩ := jn_s hf
      have hj814_152 : ∀ (t152 : Int32), j814_152 t152 = some r → JA (gC g cs sl) (WCL2 cI cS cJ ad al q4 q5 p130) 17 814 [some (.ref (ad 0)), some (.ref (al 0)), some (.ref (al 1)), some (.ref (al 2)), some (.ref q4), some (.ref q5), some (.int x85), some (.int x94), some (.int x87), some (.int x146), some (.int x69), some (.int r75), some (.int r78), some (.int r82), some (.int t83), some (.int x124), some (.int x147)] [.int t152] := by
        intro t152 hf
        have hf := jE1 ej814_152 hf
        refine j_istore (pc := 814) X dL_isSo_814 (Nat.le_of_ble_eq_true rfl) (lv' := [some (.ref (ad 0)), some (.ref (al 0)), some (.ref (al 1)), some (.ref (al 2)), some (.ref q4), some (.ref q5), some (.int x85), some (.int x94), some (.int x87), some (.int t152), some (.int x69), some (.int r75), some (.int r78), some (.int r82), some (.int t83), some (.int x124), some (.int x147)]) rfl ?_
        refine j_iinc (pc := 816) X dL_isSo_816 rfl (v := x147 + 1) (by rw [kcL_1]) (Nat.le_of_ble_eq_true rfl) (lv' := [some (.ref (ad 0)), some (.ref (al 0)), some (.ref (al 1)), some (.ref (al 2)), some (.ref q4), some (.ref q5), some (.int x85), some (.int x94), some (.int x87), some (.int t152), some (.int x69), some (.int r75), some (.int r78), some (.int r82), some (.int t83), some (.int x124), some (.int (x147 + 1))]) rfl ?_
        refine j_goto (tgt := 744) (pc := 819) X dL_isSo_819 rfl ?_
        exact ih _ _ hf
      obtain ⟨j813_153, ej813_153, hf⟩ := jn_s hf
      have hj813_153 : ∀ (_ : Unit), j813_153 = some r → JA (gC g cs sl) (WCL2 cI cS cJ ad al q4 q5 p130) 17 813 [some (.ref (ad 0)), some (.ref (al 0)), some (.ref (al 1)), some (.ref (al 2)), some (.ref q4), some (.ref q5), some (.int x85), some (.int x94), some (.int x87), some (.int x146), some (.int x69), some (.int r75), some (.int r78), some (.int r82), some (.int t83), some (.int x124), some (.int x147)] [] := by
        intro _ hf
        have hf := jE0 ej813_153 hf
        refine j_iconst (pc := 813) X dL_isSo_813 kcL_0 ?_
        exact hj814_152 _ hf
      refine j_if_eq (tgt := 813) (pc := 758) X dL_isSo_758 rfl (fun c155 => ?_) (fun c155 => ?_)
      · have hf := kT c155 hf
        exact hj813_153 () hf
      · have hf := kF c155 hf
        refine j_aload_n (pc := 761) X dL_isSo_761 rfl ?_
        refine j_iload (pc := 762) X dL_isSo_762 rfl ?_
        refine j_iload (pc := 764) X dL_isSo_764 rfl ?_
        obtain ⟨r157, h156, hf⟩ := kB hf
        refine a_cI (pc := 766) X (fun _ h => P_l (P_l (P_l h))) (c_X8_letter N p130.1 x69 x147 h156) gL_isSo_X8_letter rfl ⟨rfl, rfl⟩ rfl hd_X8_letter ⟨(Nat.le_of_ble_eq_true rfl), (Nat.le_of_ble_eq_true rfl)⟩ rfl (Nat.le_of_ble_eq_true rfl) rfl dL_isSo_766 ?_
        refine j_iload (pc := 769) X dL_isSo_769 rfl ?_
        obtain ⟨j806_158, ej806_158, hf⟩ := jn_s hf
        have hj806_158 : ∀ (t158 : Int32), j806_158 t158 = some r → JA (gC g cs sl) (WCL2 cI cS cJ ad al q4 q5 p130) 17 806 [some (.ref (ad 0)), some (.ref (al 0)), some (.ref (al 1)), some (.ref (al 2)), some (.ref q4), some (.ref q5), some (.int x85), some (.int x94), some (.int x87), some (.int x146), some (.int x69), some (.int r75), some (.int r78), some (.int r82), some (.int t83), some (.int x124), some (.int x147)] [.int t158, .int r157] := by
          intro t158 hf
          have hf := jE1 ej806_158 hf
          refine j_icmp_ne (tgt := 813) (pc := 806) X dL_isSo_806 rfl (fun c160 => ?_) (fun c160 => ?_)
          · have hf := kF c160 hf
            exact hj813_153 () hf
          · have hf := kT c160 hf
            refine j_iconst (pc := 809) X dL_isSo_809 kcL_1 ?_
            refine j_goto (tgt := 814) (pc := 810) X dL_isSo_810 rfl ?_
            exact hj814_152 _ hf
        refine j_if_ge (tgt := 804) (pc := 771) X dL_isSo_771 rfl (fun c161 => ?_) (fun c161 => ?_)
        · have hf := kT c161 hf
          refine j_bipush (pc := 804) X dL_isSo_804 kbL_m12 ?_
          exact hj806_158 _ hf
        · have hf := kF c161 hf
          refine j_bipush (pc := 774) X dL_isSo_774 kbL_96 ?_
          refine j_aload_n (pc := 776) X dL_isSo_776 rfl ?_
          refine j_iload (pc := 777) X dL_isSo_777 rfl ?_
          obtain ⟨b162, hf⟩ := gIn_s hf
          refine a_lald (pc := 779) X hE wcm_2 b162 dL_isSo_779 ?_
          refine j_iconst (pc := 780) X dL_isSo_780 kcL_5 ?_
          refine j_aload_n (pc := 781) X dL_isSo_781 rfl ?_
          refine j_iload (pc := 782) X dL_isSo_782 rfl ?_
          obtain ⟨b163, hf⟩ := gIn_s hf
          refine a_lald (pc := 784) X hE wcm_2 b163 dL_isSo_784 ?_
          obtain ⟨r165, h164, hf⟩ := kB hf
          refine j_callP (pc := 785) X (c_L_length N ((p130.2 2 x69.toNatClampNeg).toInt64) h164) gL_isSo_L_length rfl ⟨rfl, rfl⟩ hd_L_length ⟨(Nat.le_of_ble_eq_true rfl), (Nat.le_of_ble_eq_true rfl)⟩ rfl (Nat.le_of_ble_eq_true rfl) rfl dL_isSo_785 ?_
          refine j_iconst (pc := 788) X dL_isSo_788 kcL_1 ?_
          refine j_isub (pc := 789) X dL_isSo_789 ?_
          refine j_iload (pc := 790) X dL_isSo_790 rfl ?_
          refine j_isub (pc := 792) X dL_isSo_792 ?_
          refine j_imul (pc := 793) X dL_isSo_793 ?_
          refine j_lshr (pc := 794) X dL_isSo_794 ?_
          refine j_ldc2 (pc := 795) X lk_L_isSo_1 dL_isSo_795 ?_
          refine j_land (pc := 798) X dL_isSo_798 ?_
          refine j_l2i (pc := 799) X dL_isSo_799 ?_
          refine j_iadd (pc := 800) X dL_isSo_800 ?_
          refine j_goto (tgt := 806) (pc := 801) X dL_isSo_801 rfl ?_
          exact hj806_158 _ hf
set_option maxHeartbeats 4000000 in
set_option maxRecDepth 100000 in
theorem lt_L_isSo_689 {g : kG} {cI cS cJ : ClassId} {ad al : Nat → Nat} {cs sl : Nat} (X : Kx (gC g cs sl) cI cS cL_isSo RL wsL_isSo 17 rm_L_isSo) (X0 : Kx g cI cS cL_isSo RL wsL_isSo 17 rm_L_isSo) (hE : kE g.2.2.2.1 cJ g.1.2.2.2.2) (hA : g.2.2.1 = va_S (fun q => g.1.2.2.2.2.heap.size ≤ q) g.1.2.2.2.2.heap) (hI : lwD ad al) {q4 : Nat} (hq4 : g.1.2.2.2.2.heap.size ≤ q4) {q5 : Nat} (hq5 : g.1.2.2.2.2.heap.size ≤ q5) (hD : ∀ z : kS × kS, va_D (fun _ => True) (WCL2 cI cS cJ ad al q4 q5 z)) {r : Int32} (hR : eA g 17 cL_isSo .boolean r 128 1526) (N : Nat) (x69 : Int32) (r75 : Int32) (r78 : Int32) (r82 : Int32) (t83 : Int32) (x85 : Int32) (x87 : Int32) (t92 : Int32) (x94 : Int32) (p123 : kS × kS) (k724_124 : Int32 → Option (Int32)) (hk724_124 : ∀ (x124 : Int32), k724_124 x124 = some r → JA (gC g cs sl) (WCL2 cI cS cJ ad al q4 q5 p123) 17 724 [some (.ref (ad 0)), some (.ref (al 0)), some (.ref (al 1)), some (.ref (al 2)), some (.ref q4), some (.ref q5), some (.int x85), some (.int x94), some (.int x87), some (.int t92), some (.int x69), some (.int r75), some (.int r78), some (.int r82), some (.int t83), some (.int x124), none] []) : ∀ (n : Nat) (x167 : Int32) (x168 : Int32), lp_L_isSo_689 N x69 r82 p123 k724_124 n x167 x168 = some r → JA (gC g cs sl) (WCL2 cI cS cJ ad al q4 q5 p123) 17 689 [some (.ref (ad 0)), some (.ref (al 0)), some (.ref (al 1)), some (.ref (al 2)), some (.ref q4), some (.ref q5), some (.int x85), some (.int x94), some (.int x87), some (.int t92), some (.int x69), some (.int r75), some (.int r78), some (.int r82), some (.int t83), some (.int x167), some (.int x168)] [] := by
  intro n
  induction n with
  | zero =>
    intro x167 x168 hf
    rw [lp_L_isSo_689] at hf
    cases hf
  | succ n ih =>
    intro x167 x168 hf
    rw [lp_L_isSo_689] at hf
    refine j_iload (pc := 689) X dL_isSo_689 rfl ?_
    refine j_iload (pc := 691) X dL_isSo_691 rfl ?_
    refine j_icmp_ge (tgt := 724) (pc := 693) X dL_isSo_693 rfl (fun c169 => ?_) (fun c169 => ?_)
    · have hf := kT c169 hf
      refine j_weak (lv' := [some (.ref (ad 0)), some (.ref (al 0)), some (.ref (al 1)), some (.ref (al 2)), some (.ref q4), some (.ref q5), some (.int x85), some (.int x94), some (.int x87), some (.int t92), some (.int x69), some (.int r75), some (.int r78), some (.int r82), some (.int t83), some (.int x167), none]) (And.intro rfl (And.intro rfl (And.intro rfl (And.intro rfl (And.intro rfl (And.intro rfl (And.intro rfl (And.intro rfl (And.intro rfl (And.intro rfl (And.intro rfl (And.intro rfl (And.intro rfl (And.intro rfl (And.intro rfl (And.intro rfl trivial)))))))))))))))) ?_
      exact hk724_124 _ hf
    · have hf := kF c169 hf
      refine j_iload (pc := 696) X dL_isSo_696 rfl ?_
      obtain ⟨j716_170, ej716_170, hf⟩ := jn_s hf
      have hj716_170 : ∀ (t170 : Int32), j716_170 t170 = some r → JA (gC g cs sl) (WCL2 cI cS cJ ad al q4 q5 p123) 17 716 [some (.ref (ad 0)), some (.ref (al 0)), some (.ref (al 1)), some (.ref (al 2)), some (.ref q4), some (.ref q5), some (.int x85), some (.int x94), some (.int x87), some (.int t92), some (.int x69), some (.int r75), some (.int r78), some (.int r82), some (.int t83), some (.int x167), some (.int x168)] [.int t170] := by
        intro t170 hf
        have hf := jE1 ej716_170 hf
        refine j_istore (pc := 716) X dL_isSo_716 (Nat.le_of_ble_eq_true rfl) (lv' := [some (.ref (ad 0)), some (.ref (al 0)), some (.ref (al 1)), some (.ref (al 2)), some (.ref q4), some (.ref q5), some (.int x85), some (.int x94), some (.int x87), some (.int t92), some (.int x69), some (.int r75), some (.int r78), some (.int r82), some (.int t83), some (.int t170), some (.int x168)]) rfl ?_
        refine j_iinc (pc := 718) X dL_isSo_718 rfl (v := x168 + 1) (by rw [kcL_1]) (Nat.le_of_ble_eq_true rfl) (lv' := [some (.ref (ad 0)), some (.ref (al 0)), some (.ref (al 1)), some (.ref (al 2)), some (.ref q4), some (.ref q5), some (.int x85), some (.int x94), some (.int x87), some (.int t92), some (.int x69), some (.int r75), some (.int r78), some (.int r82), some (.int t83), some (.int t170), some (.int (x168 + 1))]) rfl ?_
        refine j_goto (tgt := 689) (pc := 721) X dL_isSo_721 rfl ?_
        exact ih _ _ hf
      obtain ⟨j715_171, ej715_171, hf⟩ := jn_s hf
      have hj715_171 : ∀ (_ : Unit), j715_171 = some r → JA (gC g cs sl) (WCL2 cI cS cJ ad al q4 q5 p123) 17 715 [some (.ref (ad 0)), some (.ref (al 0)), some (.ref (al 1)), some (.ref (al 2)), some (.ref q4), some (.ref q5), some (.int x85), some (.int x94), some (.int x87), some (.int t92), some (.int x69), some (.int r75), some (.int r78), some (.int r82), some (.int t83), some (.int x167), some (.int x168)] [] := by
        intro _ hf
        have hf := jE0 ej715_171 hf
        refine j_iconst (pc := 715) X dL_isSo_715 kcL_0 ?_
        exact hj716_170 _ hf
      refine j_if_eq (tgt := 715) (pc := 698) X dL_isSo_698 rfl (fun c173 => ?_) (fun c173 => ?_)
      · have hf := kT c173 hf
        exact hj715_171 () hf
      · have hf := kF c173 hf
        refine j_aload (pc := 701) X dL_isSo_701 rfl ?_
        refine j_iload (pc := 703) X dL_isSo_703 rfl ?_
        obtain ⟨b174, hf⟩ := gIn_s hf
        refine a_iald (pc := 705) X wcm_5 b174 dL_isSo_705 ?_
        refine j_iload (pc := 706) X dL_isSo_706 rfl ?_
        refine j_icmp_eq (tgt := 715) (pc := 708) X dL_isSo_708 rfl (fun c175 => ?_) (fun c175 => ?_)
        · have hf := kT c175 hf
          exact hj715_171 () hf
        · have hf := kF c175 hf
          refine j_iconst (pc := 711) X dL_isSo_711 kcL_1 ?_
          refine j_goto (tgt := 716) (pc := 712) X dL_isSo_712 rfl ?_
          exact hj716_170 _ hf
set_option maxHeartbeats 4000000 in
set_option maxRecDepth 100000 in
theorem lt_L_isSo_128 {g : kG} {cI cS cJ : ClassId} {ad al : Nat → Nat}  (X0 : Kx g cI cS cL_isSo RL wsL_isSo 17 rm_L_isSo) (hE : kE g.2.2.2.1 cJ g.1.2.2.2.2) (hA : g.2.2.1 = va_S (fun q => g.1.2.2.2.2.heap.size ≤ q) g.1.2.2.2.2.heap) (hI : lwD ad al) {q4 : Nat} (hq4 : g.1.2.2.2.2.heap.size ≤ q4) {q5 : Nat} (hq5 : g.1.2.2.2.2.heap.size ≤ q5) (hD : ∀ z : kS × kS, va_D (fun _ => True) (WCL2 cI cS cJ ad al q4 q5 z)) {r : Int32} (hR : eA g 17 cL_isSo .boolean r 128 1526) (N : Nat)  (k875_14 : Int32 → Int32 → Int32 → Int32 → kS × kS → Option (Int32)) (hk875_14 : ∀ (x10 : Int32) (x11 : Int32) (x12 : Int32) (x13 : Int32) (p14 : kS × kS), k875_14 x10 x11 x12 x13 p14 = some r → JA (gC g 128 1526) (WCL2 cI cS cJ ad al q4 q5 p14) 17 875 [some (.ref (ad 0)), some (.ref (al 0)), some (.ref (al 1)), some (.ref (al 2)), some (.ref q4), some (.ref q5), some (.int x10), some (.int x11), some (.int x12), some (.int x13), none, none, none, none, none, none, none] []) : ∀ (n : Nat) (x65 : Int32) (x66 : Int32) (x67 : Int32) (x68 : Int32) (x69 : Int32) (p70 : kS × kS) (cs sl : Nat) (hcs : cs + n * 14 ≤ 128) (hsl : sl + n * 168 ≤ 1526), lp_L_isSo_128 N k875_14 n x65 x66 x67 x68 x69 p70 = some r → JA (gC g cs sl) (WCL2 cI cS cJ ad al q4 q5 p70) 17 128 [some (.ref (ad 0)), some (.ref (al 0)), some (.ref (al 1)), some (.ref (al 2)), some (.ref q4), some (.ref q5), some (.int x65), some (.int x66), some (.int x67), some (.int x68), some (.int x69), none, none, none, none, none, none] [] := by
  intro n
  induction n with
  | zero =>
    intro x65 x66 x67 x68 x69 p70 cs sl hcs hsl hf
    rw [lp_L_isSo_128] at hf
    cases hf
  | succ n ih =>
    intro x65 x66 x67 x68 x69 p70 cs sl hcs hsl hf
    rw [lp_L_isSo_128] at hf
    have X := X0.gC (cs := cs) (sl := sl) (by show cs ≤ 128; omega) (by show sl ≤ 1526; omega)
    refine j_iload (pc := 128) X dL_isSo_128 rfl ?_
    refine j_aload_n (pc := 130) X dL_isSo_130 rfl ?_
    refine j_iconst (pc := 131) X dL_isSo_131 kcL_5 ?_
    obtain ⟨b71, hf⟩ := gIn_s hf
    refine a_iald (pc := 132) X wcm_0 b71 dL_isSo_132 ?_
    refine j_icmp_ge (tgt := 875) (pc := 133) X dL_isSo_133 rfl (fun c72 => ?_) (fun c72 => ?_)
    · have hf := kT c72 hf
      refine j_weak (lv' := [some (.ref (ad 0)), some (.ref (al 0)), some (.ref (al 1)), some (.ref (al 2)), some (.ref q4), some (.ref q5), some (.int x65), some (.int x66), some (.int x67), some (.int x68), none, none, none, none, none, none, none]) (And.intro rfl (And.intro rfl (And.intro rfl (And.intro rfl (And.intro rfl (And.intro rfl (And.intro rfl (And.intro rfl (And.intro rfl (And.intro rfl trivial)))))))))) ?_
      refine a_widen (cs2 := 128) (sl2 := 1526) (by omega) (by omega) ?_
      exact hk875_14 _ _ _ _ _ hf
    · have hf := kF c72 hf
      refine j_iload (pc := 136) X dL_isSo_136 rfl ?_
      refine j_if_eq (tgt := 875) (pc := 138) X dL_isSo_138 rfl (fun c73 => ?_) (fun c73 => ?_)
      · have hf := kT c73 hf
        refine j_weak (lv' := [some (.ref (ad 0)), some (.ref (al 0)), some (.ref (al 1)), some (.ref (al 2)), some (.ref q4), some (.ref q5), some (.int x65), some (.int x66), some (.int x67), some (.int x68), none, none, none, none, none, none, none]) (And.intro rfl (And.intro rfl (And.intro rfl (And.intro rfl (And.intro rfl (And.intro rfl (And.intro rfl (And.intro rfl (And.intro rfl (And.intro rfl trivial)))))))))) ?_
        refine a_widen (cs2 := 128) (sl2 := 1526) (by omega) (by omega) ?_
        exact hk875_14 _ _ _ _ _ hf
      · have hf := kF c73 hf
        refine j_aload_n (pc := 141) X dL_isSo_141 rfl ?_
        refine j_aload_n (pc := 142) X dL_isSo_142 rfl ?_
        refine j_iload (pc := 143) X dL_isSo_143 rfl ?_
        obtain ⟨r75, h74, hf⟩ := kB hf
        refine a_callIL (pc := 145) X hE (c_L_formOf N p70.2 x69 h74) (fun _ h => P_r (P_l (P_l h))) gL_isSo_L_formOf rfl ⟨rfl, rfl⟩ hd_L_formOf ⟨(Nat.le_of_ble_eq_true rfl), (Nat.le_of_ble_eq_true rfl)⟩ rfl (Nat.le_of_ble_eq_true rfl) rfl dL_isSo_145 ?_
        refine j_istore (pc := 148) X dL_isSo_148 (Nat.le_of_ble_eq_true rfl) (lv' := [some (.ref (ad 0)), some (.ref (al 0)), some (.ref (al 1)), some (.ref (al 2)), some (.ref q4), some (.ref q5), some (.int x65), some (.int x66), some (.int x67), some (.int x68), some (.int x69), some (.int r75), none, none, none, none, none]) rfl ?_
        refine j_aload_n (pc := 150) X dL_isSo_150 rfl ?_
        refine j_aload_n (pc := 151) X dL_isSo_151 rfl ?_
        refine j_iload (pc := 152) X dL_isSo_152 rfl ?_
        obtain ⟨b76, hf⟩ := gIn_s hf
        refine a_lald (pc := 154) X hE wcm_2 b76 dL_isSo_154 ?_
        obtain ⟨r78, h77, hf⟩ := kB hf
        refine a_callIL (pc := 155) X hE (c_L_width N p70.2 ((p70.2 2 x69.toNatClampNeg).toInt64) h77) (fun _ h => P_r (P_l (P_l h))) gL_isSo_L_width rfl ⟨rfl, rfl⟩ hd_L_width ⟨(Nat.le_of_ble_eq_true rfl), (Nat.le_of_ble_eq_true rfl)⟩ rfl (Nat.le_of_ble_eq_true rfl) rfl dL_isSo_155 ?_
        refine j_istore (pc := 158) X dL_isSo_158 (Nat.le_of_ble_eq_true rfl) (lv' := [some (.ref (ad 0)), some (.ref (al 0)), some (.ref (al 1)), some (.ref (al 2)), some (.ref q4), some (.ref q5), some (.int x65), some (.int x66), some (.int x67), some (.int x68), some (.int x69), some (.int r75), some (.int r78), none, none, none, none]) rfl ?_
        refine j_aload_n (pc := 160) X dL_isSo_160 rfl ?_
        refine j_aload_n (pc := 161) X dL_isSo_161 rfl ?_
        refine j_aload_n (pc := 162) X dL_isSo_162 rfl ?_
        refine j_aload_n (pc := 163) X dL_isSo_163 rfl ?_
        refine j_iconst (pc := 164) X dL_isSo_164 kcL_0 ?_
        obtain ⟨b79, hf⟩ := gIn_s hf
        refine a_iald (pc := 165) X wcm_0 b79 dL_isSo_165 ?_
        refine j_aload_n (pc := 166) X dL_isSo_166 rfl ?_
        refine j_iconst (pc := 167) X dL_isSo_167 kcL_1 ?_
        obtain ⟨b80, hf⟩ := gIn_s hf
        refine a_iald (pc := 168) X wcm_0 b80 dL_isSo_168 ?_
        refine j_iload (pc := 169) X dL_isSo_169 rfl ?_
        obtain ⟨r82, h81, hf⟩ := kB hf
        refine a_callAL (pc := 171) X hE hA (c_L_shown hI.2.1 N p70.2 (p70.2 0 (0 : Int32).toNatClampNeg) (p70.2 0 (1 : Int32).toNatClampNeg) x69 h81) (fun _ h => P_r (P_l (P_l h))) gL_isSo_L_shown rfl rfl rfl hd_L_shown ⟨(Nat.le_of_ble_eq_true rfl), (Nat.le_of_ble_eq_true rfl)⟩ rfl (by show cs + 1 ≤ 128; omega) (by show sl + 12 ≤ 1526; omega) (Nat.le_of_ble_eq_true rfl) rfl dL_isSo_171 ?_
        have X := X0.gC (cs := cs + 1) (sl := sl + 12) (by show cs + 1 ≤ 128; omega) (by show sl + 12 ≤ 1526; omega)
        refine j_istore (pc := 174) X dL_isSo_174 (Nat.le_of_ble_eq_true rfl) (lv' := [some (.ref (ad 0)), some (.ref (al 0)), some (.ref (al 1)), some (.ref (al 2)), some (.ref q4), some (.ref q5), some (.int x65), some (.int x66), some (.int x67), some (.int x68), some (.int x69), some (.int r75), some (.int r78), some (.int r82), none, none, none]) rfl ?_
        refine j_iload (pc := 176) X dL_isSo_176 rfl ?_
        obtain ⟨j199_83, ej199_83, hf⟩ := jn_s hf
        have hj199_83 : ∀ (t83 : Int32), j199_83 t83 = some r → JA (gC g ((cs + 1) + 13) ((sl + 12) + 156)) (WCL2 cI cS cJ ad al q4 q5 p70) 17 199 [some (.ref (ad 0)), some (.ref (al 0)), some (.ref (al 1)), some (.ref (al 2)), some (.ref q4), some (.ref q5), some (.int x65), some (.int x66), some (.int x67), some (.int x68), some (.int x69), some (.int r75), some (.int r78), some (.int r82), none, none, none] [.int t83] := by
          intro t83 hf
          have hf := jE1 ej199_83 hf
          have X := X0.gC (cs := (cs + 1) + 13) (sl := (sl + 12) + 156) (by show (cs + 1) + 13 ≤ 128; omega) (by show (sl + 12) + 156 ≤ 1526; omega)
          refine j_istore (pc := 199) X dL_isSo_199 (Nat.le_of_ble_eq_true rfl) (lv' := [some (.ref (ad 0)), some (.ref (al 0)), some (.ref (al 1)), some (.ref (al 2)), some (.ref q4), some (.ref q5), some (.int x65), some (.int x66), some (.int x67), some (.int x68), some (.int x69), some (.int r75), some (.int r78), some (.int r82), some (.int t83), none, none]) rfl ?_
          refine j_iload (pc := 201) X dL_isSo_201 rfl ?_
          obtain ⟨j355_89, ej355_89, hf⟩ := jn_s hf
          have hj355_89 : ∀ (x85 : Int32) (x86 : Int32) (x87 : Int32) (x88 : Int32) (p89 : kS × kS), j355_89 x85 x86 x87 x88 p89 = some r → JA (gC g ((cs + 1) + 13) ((sl + 12) + 156)) (WCL2 cI cS cJ ad al q4 q5 p89) 17 355 [some (.ref (ad 0)), some (.ref (al 0)), some (.ref (al 1)), some (.ref (al 2)), some (.ref q4), some (.ref q5), some (.int x85), some (.int x86), some (.int x87), some (.int x88), some (.int x69), some (.int r75), some (.int r78), some (.int r82), some (.int t83), none, none] [] := by
            intro x85 x86 x87 x88 p89 hf
            have hf := jE5 ej355_89 hf
            refine j_iload (pc := 355) X dL_isSo_355 rfl ?_
            refine j_aload_n (pc := 357) X dL_isSo_357 rfl ?_
            refine j_iconst (pc := 358) X dL_isSo_358 kcL_3 ?_
            obtain ⟨b91, hf⟩ := gIn_s hf
            refine a_iald (pc := 359) X wcm_0 b91 dL_isSo_359 ?_
            refine j_iadd (pc := 360) X dL_isSo_360 ?_
            refine j_istore (pc := 361) X dL_isSo_361 (Nat.le_of_ble_eq_true rfl) (lv' := [some (.ref (ad 0)), some (.ref (al 0)), some (.ref (al 1)), some (.ref (al 2)), some (.ref q4), some (.ref q5), some (.int x85), some (.int (x86 + (p89.2 0 (3 : Int32).toNatClampNeg))), some (.int x87), some (.int x88), some (.int x69), some (.int r75), some (.int r78), some (.int r82), some (.int t83), none, none]) rfl ?_
            refine j_iload (pc := 363) X dL_isSo_363 rfl ?_
            obtain ⟨j559_92, ej559_92, hf⟩ := jn_s hf
            have hj559_92 : ∀ (t92 : Int32), j559_92 t92 = some r → JA (gC g ((cs + 1) + 13) ((sl + 12) + 156)) (WCL2 cI cS cJ ad al q4 q5 p89) 17 559 [some (.ref (ad 0)), some (.ref (al 0)), some (.ref (al 1)), some (.ref (al 2)), some (.ref q4), some (.ref q5), some (.int x85), some (.int (x86 + (p89.2 0 (3 : Int32).toNatClampNeg))), some (.int x87), some (.int x88), some (.int x69), some (.int r75), some (.int r78), some (.int r82), some (.int t83), none, none] [.int t92] := by
              intro t92 hf
              have hf := jE1 ej559_92 hf
              refine j_istore (pc := 559) X dL_isSo_559 (Nat.le_of_ble_eq_true rfl) (lv' := [some (.ref (ad 0)), some (.ref (al 0)), some (.ref (al 1)), some (.ref (al 2)), some (.ref q4), some (.ref q5), some (.int x85), some (.int (x86 + (p89.2 0 (3 : Int32).toNatClampNeg))), some (.int x87), some (.int t92), some (.int x69), some (.int r75), some (.int r78), some (.int r82), some (.int t83), none, none]) rfl ?_
              refine j_iload (pc := 561) X dL_isSo_561 rfl ?_
              refine j_iload (pc := 563) X dL_isSo_563 rfl ?_
              refine j_iadd (pc := 565) X dL_isSo_565 ?_
              obtain ⟨x94, ex94, hf⟩ := jn_s hf
              refine j_istore (pc := 566) X dL_isSo_566 (Nat.le_of_ble_eq_true rfl) (lv' := [some (.ref (ad 0)), some (.ref (al 0)), some (.ref (al 1)), some (.ref (al 2)), some (.ref q4), some (.ref q5), some (.int x85), some (.int x94), some (.int x87), some (.int t92), some (.int x69), some (.int r75), some (.int r78), some (.int r82), some (.int t83), none, none]) (by rw [ex94]; rfl) ?_
              refine j_aload (pc := 568) X dL_isSo_568 rfl ?_
              refine j_iconst (pc := 570) X dL_isSo_570 kcL_0 ?_
              refine j_dup2 (pc := 571) X dL_isSo_571 rfl rfl ?_
              obtain ⟨b95, hf⟩ := gIn_s hf
              refine a_iald (pc := 572) X wcm_4 b95 dL_isSo_572 ?_
              refine j_iload (pc := 573) X dL_isSo_573 rfl ?_
              obtain ⟨j583_96, ej583_96, hf⟩ := jn_s hf
              have hj583_96 : ∀ (t96 : Int32), j583_96 t96 = some r → JA (gC g ((cs + 1) + 13) ((sl + 12) + 156)) (WCL2 cI cS cJ ad al q4 q5 p89) 17 583 [some (.ref (ad 0)), some (.ref (al 0)), some (.ref (al 1)), some (.ref (al 2)), some (.ref q4), some (.ref q5), some (.int x85), some (.int x94), some (.int x87), some (.int t92), some (.int x69), some (.int r75), some (.int r78), some (.int r82), some (.int t83), none, none] [.int t96, .int (p89.2 4 (0 : Int32).toNatClampNeg), .int 0, .ref q4] := by
                intro t96 hf
                have hf := jE1 ej583_96 hf
                refine j_iadd (pc := 583) X dL_isSo_583 ?_
                obtain ⟨b98, hf⟩ := gIn_s hf
                obtain ⟨p99, ep99, hf⟩ := jn_s hf
                refine a_iast (W1 := (WCL2 cI cS cJ ad al q4 q5 p99)) (pc := 584) X hA (hD _) hq4 wcm_4 b98 dL_isSo_584 (by rw [ep99]; exact scm_4 _) ?_
                refine j_aload (pc := 585) X dL_isSo_585 rfl ?_
                refine j_iconst (pc := 587) X dL_isSo_587 kcL_1 ?_
                refine j_dup2 (pc := 588) X dL_isSo_588 rfl rfl ?_
                obtain ⟨b100, hf⟩ := gIn_s hf
                refine a_iald (pc := 589) X wcm_4 b100 dL_isSo_589 ?_
                refine j_iload (pc := 590) X dL_isSo_590 rfl ?_
                obtain ⟨j609_101, ej609_101, hf⟩ := jn_s hf
                have hj609_101 : ∀ (t101 : Int32), j609_101 t101 = some r → JA (gC g ((cs + 1) + 13) ((sl + 12) + 156)) (WCL2 cI cS cJ ad al q4 q5 p99) 17 609 [some (.ref (ad 0)), some (.ref (al 0)), some (.ref (al 1)), some (.ref (al 2)), some (.ref q4), some (.ref q5), some (.int x85), some (.int x94), some (.int x87), some (.int t92), some (.int x69), some (.int r75), some (.int r78), some (.int r82), some (.int t83), none, none] [.int t101, .int (p99.2 4 (1 : Int32).toNatClampNeg), .int 1, .ref q4] := by
                  intro t101 hf
                  have hf := jE1 ej609_101 hf
                  refine j_iadd (pc := 609) X dL_isSo_609 ?_
                  obtain ⟨b103, hf⟩ := gIn_s hf
                  obtain ⟨p104, ep104, hf⟩ := jn_s hf
                  refine a_iast (W1 := (WCL2 cI cS cJ ad al q4 q5 p104)) (pc := 610) X hA (hD _) hq4 wcm_4 b103 dL_isSo_610 (by rw [ep104]; exact scm_4 _) ?_
                  refine j_aload (pc := 611) X dL_isSo_611 rfl ?_
                  refine j_iconst (pc := 613) X dL_isSo_613 kcL_2 ?_
                  refine j_dup2 (pc := 614) X dL_isSo_614 rfl rfl ?_
                  obtain ⟨b105, hf⟩ := gIn_s hf
                  refine a_iald (pc := 615) X wcm_4 b105 dL_isSo_615 ?_
                  refine j_iload (pc := 616) X dL_isSo_616 rfl ?_
                  refine j_iadd (pc := 618) X dL_isSo_618 ?_
                  obtain ⟨b106, hf⟩ := gIn_s hf
                  obtain ⟨p107, ep107, hf⟩ := jn_s hf
                  refine a_iast (W1 := (WCL2 cI cS cJ ad al q4 q5 p107)) (pc := 619) X hA (hD _) hq4 wcm_4 b106 dL_isSo_619 (by rw [ep107]; exact scm_4 _) ?_
                  refine j_aload (pc := 620) X dL_isSo_620 rfl ?_
                  refine j_iconst (pc := 622) X dL_isSo_622 kcL_3 ?_
                  refine j_dup2 (pc := 623) X dL_isSo_623 rfl rfl ?_
                  obtain ⟨b108, hf⟩ := gIn_s hf
                  refine a_iald (pc := 624) X wcm_4 b108 dL_isSo_624 ?_
                  refine j_iload (pc := 625) X dL_isSo_625 rfl ?_
                  obtain ⟨j639_109, ej639_109, hf⟩ := jn_s hf
                  have hj639_109 : ∀ (t109 : Int32), j639_109 t109 = some r → JA (gC g ((cs + 1) + 13) ((sl + 12) + 156)) (WCL2 cI cS cJ ad al q4 q5 p107) 17 639 [some (.ref (ad 0)), some (.ref (al 0)), some (.ref (al 1)), some (.ref (al 2)), some (.ref q4), some (.ref q5), some (.int x85), some (.int x94), some (.int x87), some (.int t92), some (.int x69), some (.int r75), some (.int r78), some (.int r82), some (.int t83), none, none] [.int t109, .int (p107.2 4 (3 : Int32).toNatClampNeg), .int 3, .ref q4] := by
                    intro t109 hf
                    have hf := jE1 ej639_109 hf
                    refine j_iadd (pc := 639) X dL_isSo_639 ?_
                    obtain ⟨b111, hf⟩ := gIn_s hf
                    obtain ⟨p112, ep112, hf⟩ := jn_s hf
                    refine a_iast (W1 := (WCL2 cI cS cJ ad al q4 q5 p112)) (pc := 640) X hA (hD _) hq4 wcm_4 b111 dL_isSo_640 (by rw [ep112]; exact scm_4 _) ?_
                    refine j_aload (pc := 641) X dL_isSo_641 rfl ?_
                    refine j_iconst (pc := 643) X dL_isSo_643 kcL_4 ?_
                    refine j_dup2 (pc := 644) X dL_isSo_644 rfl rfl ?_
                    obtain ⟨b113, hf⟩ := gIn_s hf
                    refine a_iald (pc := 645) X wcm_4 b113 dL_isSo_645 ?_
                    refine j_iload (pc := 646) X dL_isSo_646 rfl ?_
                    obtain ⟨j656_114, ej656_114, hf⟩ := jn_s hf
                    have hj656_114 : ∀ (t114 : Int32), j656_114 t114 = some r → JA (gC g ((cs + 1) + 13) ((sl + 12) + 156)) (WCL2 cI cS cJ ad al q4 q5 p112) 17 656 [some (.ref (ad 0)), some (.ref (al 0)), some (.ref (al 1)), some (.ref (al 2)), some (.ref q4), some (.ref q5), some (.int x85), some (.int x94), some (.int x87), some (.int t92), some (.int x69), some (.int r75), some (.int r78), some (.int r82), some (.int t83), none, none] [.int t114, .int (p112.2 4 (4 : Int32).toNatClampNeg), .int 4, .ref q4] := by
                      intro t114 hf
                      have hf := jE1 ej656_114 hf
                      refine j_iadd (pc := 656) X dL_isSo_656 ?_
                      obtain ⟨b116, hf⟩ := gIn_s hf
                      obtain ⟨p117, ep117, hf⟩ := jn_s hf
                      refine a_iast (W1 := (WCL2 cI cS cJ ad al q4 q5 p117)) (pc := 657) X hA (hD _) hq4 wcm_4 b116 dL_isSo_657 (by rw [ep117]; exact scm_4 _) ?_
                      refine j_iload (pc := 658) X dL_isSo_658 rfl ?_
                      obtain ⟨j668_118, ej668_118, hf⟩ := jn_s hf
                      have hj668_118 : ∀ (t118 : Int32), j668_118 t118 = some r → JA (gC g ((cs + 1) + 13) ((sl + 12) + 156)) (WCL2 cI cS cJ ad al q4 q5 p117) 17 668 [some (.ref (ad 0)), some (.ref (al 0)), some (.ref (al 1)), some (.ref (al 2)), some (.ref q4), some (.ref q5), some (.int x85), some (.int x94), some (.int x87), some (.int t92), some (.int x69), some (.int r75), some (.int r78), some (.int r82), some (.int t83), none, none] [.int t118] := by
                        intro t118 hf
                        have hf := jE1 ej668_118 hf
                        refine j_istore (pc := 668) X dL_isSo_668 (Nat.le_of_ble_eq_true rfl) (lv' := [some (.ref (ad 0)), some (.ref (al 0)), some (.ref (al 1)), some (.ref (al 2)), some (.ref q4), some (.ref q5), some (.int x85), some (.int x94), some (.int x87), some (.int t92), some (.int x69), some (.int r75), some (.int r78), some (.int r82), some (.int t83), some (.int t118), none]) rfl ?_
                        refine j_aload (pc := 670) X dL_isSo_670 rfl ?_
                        refine j_iload (pc := 672) X dL_isSo_672 rfl ?_
                        refine j_iload (pc := 674) X dL_isSo_674 rfl ?_
                        obtain ⟨j685_120, ej685_120, hf⟩ := jn_s hf
                        have hj685_120 : ∀ (t120 : Int32), j685_120 t120 = some r → JA (gC g ((cs + 1) + 13) ((sl + 12) + 156)) (WCL2 cI cS cJ ad al q4 q5 p117) 17 685 [some (.ref (ad 0)), some (.ref (al 0)), some (.ref (al 1)), some (.ref (al 2)), some (.ref q4), some (.ref q5), some (.int x85), some (.int x94), some (.int x87), some (.int t92), some (.int x69), some (.int r75), some (.int r78), some (.int r82), some (.int t83), some (.int t118), none] [.int t120, .int x69, .ref q5] := by
                          intro t120 hf
                          have hf := jE1 ej685_120 hf
                          obtain ⟨b122, hf⟩ := gIn_s hf
                          obtain ⟨p123, ep123, hf⟩ := jn_s hf
                          refine a_iast (W1 := (WCL2 cI cS cJ ad al q4 q5 p123)) (pc := 685) X hA (hD _) hq5 wcm_5 b122 dL_isSo_685 (by rw [ep123]; exact scm_5 _) ?_
                          refine j_iconst (pc := 686) X dL_isSo_686 kcL_0 ?_
                          refine j_istore (pc := 687) X dL_isSo_687 (Nat.le_of_ble_eq_true rfl) (lv' := [some (.ref (ad 0)), some (.ref (al 0)), some (.ref (al 1)), some (.ref (al 2)), some (.ref q4), some (.ref q5), some (.int x85), some (.int x94), some (.int x87), some (.int t92), some (.int x69), some (.int r75), some (.int r78), some (.int r82), some (.int t83), some (.int t118), some (.int 0)]) rfl ?_
                          obtain ⟨k724_124, ek724_124, hf⟩ := jn_s hf
                          have hk724_124 : ∀ (x124 : Int32), k724_124 x124 = some r → JA (gC g ((cs + 1) + 13) ((sl + 12) + 156)) (WCL2 cI cS cJ ad al q4 q5 p123) 17 724 [some (.ref (ad 0)), some (.ref (al 0)), some (.ref (al 1)), some (.ref (al 2)), some (.ref q4), some (.ref q5), some (.int x85), some (.int x94), some (.int x87), some (.int t92), some (.int x69), some (.int r75), some (.int r78), some (.int r82), some (.int t83), some (.int x124), none] [] := by
                            intro x124 hf
                            have hf := jE1 ek724_124 hf
                            refine j_aload (pc := 724) X dL_isSo_724 rfl ?_
                            refine j_iconst (pc := 726) X dL_isSo_726 kcL_5 ?_
                            refine j_dup2 (pc := 727) X dL_isSo_727 rfl rfl ?_
                            obtain ⟨b126, hf⟩ := gIn_s hf
                            refine a_iald (pc := 728) X wcm_4 b126 dL_isSo_728 ?_
                            refine j_iload (pc := 729) X dL_isSo_729 rfl ?_
                            obtain ⟨j739_127, ej739_127, hf⟩ := jn_s hf
                            have hj739_127 : ∀ (t127 : Int32), j739_127 t127 = some r → JA (gC g ((cs + 1) + 13) ((sl + 12) + 156)) (WCL2 cI cS cJ ad al q4 q5 p123) 17 739 [some (.ref (ad 0)), some (.ref (al 0)), some (.ref (al 1)), some (.ref (al 2)), some (.ref q4), some (.ref q5), some (.int x85), some (.int x94), some (.int x87), some (.int t92), some (.int x69), some (.int r75), some (.int r78), some (.int r82), some (.int t83), some (.int x124), none] [.int t127, .int (p123.2 4 (5 : Int32).toNatClampNeg), .int 5, .ref q4] := by
                              intro t127 hf
                              have hf := jE1 ej739_127 hf
                              refine j_iadd (pc := 739) X dL_isSo_739 ?_
                              obtain ⟨b129, hf⟩ := gIn_s hf
                              obtain ⟨p130, ep130, hf⟩ := jn_s hf
                              refine a_iast (W1 := (WCL2 cI cS cJ ad al q4 q5 p130)) (pc := 740) X hA (hD _) hq4 wcm_4 b129 dL_isSo_740 (by rw [ep130]; exact scm_4 _) ?_
                              refine j_iconst (pc := 741) X dL_isSo_741 kcL_0 ?_
                              refine j_istore (pc := 742) X dL_isSo_742 (Nat.le_of_ble_eq_true rfl) (lv' := [some (.ref (ad 0)), some (.ref (al 0)), some (.ref (al 1)), some (.ref (al 2)), some (.ref q4), some (.ref q5), some (.int x85), some (.int x94), some (.int x87), some (.int t92), some (.int x69), some (.int r75), some (.int r78), some (.int r82), some (.int t83), some (.int x124), some (.int 0)]) rfl ?_
                              obtain ⟨k822_131, ek822_131, hf⟩ := jn_s hf
                              have hk822_131 : ∀ (x131 : Int32), k822_131 x131 = some r → JA (gC g ((cs + 1) + 13) ((sl + 12) + 156)) (WCL2 cI cS cJ ad al q4 q5 p130) 17 822 [some (.ref (ad 0)), some (.ref (al 0)), some (.ref (al 1)), some (.ref (al 2)), some (.ref q4), some (.ref q5), some (.int x85), some (.int x94), some (.int x87), some (.int x131), some (.int x69), some (.int r75), some (.int r78), some (.int r82), some (.int t83), some (.int x124), none] [] := by
                                intro x131 hf
                                have hf := jE1 ek822_131 hf
                                refine j_iload (pc := 822) X dL_isSo_822 rfl ?_
                                obtain ⟨j867_133, ej867_133, hf⟩ := jn_s hf
                                have hj867_133 : ∀ (t133 : Int32), j867_133 t133 = some r → JA (gC g ((cs + 1) + 13) ((sl + 12) + 156)) (WCL2 cI cS cJ ad al q4 q5 p130) 17 867 [some (.ref (ad 0)), some (.ref (al 0)), some (.ref (al 1)), some (.ref (al 2)), some (.ref q4), some (.ref q5), some (.int x85), some (.int x94), some (.int x87), some (.int x131), some (.int x69), some (.int r75), some (.int r78), some (.int r82), some (.int t83), some (.int x124), none] [.int t133] := by
                                  intro t133 hf
                                  have hf := jE1 ej867_133 hf
                                  refine j_istore (pc := 867) X dL_isSo_867 (Nat.le_of_ble_eq_true rfl) (lv' := [some (.ref (ad 0)), some (.ref (al 0)), some (.ref (al 1)), some (.ref (al 2)), some (.ref q4), some (.ref q5), some (.int x85), some (.int x94), some (.int x87), some (.int t133), some (.int x69), some (.int r75), some (.int r78), some (.int r82), some (.int t83), some (.int x124), none]) rfl ?_
                                  refine j_iinc (pc := 869) X dL_isSo_869 rfl (v := x69 + 1) (by rw [kcL_1]) (Nat.le_of_ble_eq_true rfl) (lv' := [some (.ref (ad 0)), some (.ref (al 0)), some (.ref (al 1)), some (.ref (al 2)), some (.ref q4), some (.ref q5), some (.int x85), some (.int x94), some (.int x87), some (.int t133), some (.int (x69 + 1)), some (.int r75), some (.int r78), some (.int r82), some (.int t83), some (.int x124), none]) rfl ?_
                                  refine j_goto (tgt := 128) (pc := 872) X dL_isSo_872 rfl ?_
                                  refine j_weak (lv' := [some (.ref (ad 0)), some (.ref (al 0)), some (.ref (al 1)), some (.ref (al 2)), some (.ref q4), some (.ref q5), some (.int x85), some (.int x94), some (.int x87), some (.int t133), some (.int (x69 + 1)), none, none, none, none, none, none]) (And.intro rfl (And.intro rfl (And.intro rfl (And.intro rfl (And.intro rfl (And.intro rfl (And.intro rfl (And.intro rfl (And.intro rfl (And.intro rfl (And.intro rfl trivial))))))))))) ?_
                                  exact ih _ _ _ _ _ _ ((cs + 1) + 13) ((sl + 12) + 156) (by omega) (by omega) hf
                                obtain ⟨j866_134, ej866_134, hf⟩ := jn_s hf
                                have hj866_134 : ∀ (_ : Unit), j866_134 = some r → JA (gC g ((cs + 1) + 13) ((sl + 12) + 156)) (WCL2 cI cS cJ ad al q4 q5 p130) 17 866 [some (.ref (ad 0)), some (.ref (al 0)), some (.ref (al 1)), some (.ref (al 2)), some (.ref q4), some (.ref q5), some (.int x85), some (.int x94), some (.int x87), some (.int x131), some (.int x69), some (.int r75), some (.int r78), some (.int r82), some (.int t83), some (.int x124), none] [] := by
                                  intro _ hf
                                  have hf := jE0 ej866_134 hf
                                  refine j_iconst (pc := 866) X dL_isSo_866 kcL_0 ?_
                                  exact hj867_133 _ hf
                                refine j_if_eq (tgt := 866) (pc := 824) X dL_isSo_824 rfl (fun c136 => ?_) (fun c136 => ?_)
                                · have hf := kT c136 hf
                                  exact hj866_134 () hf
                                · have hf := kF c136 hf
                                  refine j_aload_n (pc := 827) X dL_isSo_827 rfl ?_
                                  refine j_iload (pc := 828) X dL_isSo_828 rfl ?_
                                  refine j_bipush (pc := 830) X dL_isSo_830 kbL_12 ?_
                                  obtain ⟨r138, h137, hf⟩ := kB hf
                                  refine a_cI (pc := 832) X (fun _ h => P_l (P_l (P_l h))) (c_X8_letter N p130.1 x69 12 h137) gL_isSo_X8_letter rfl ⟨rfl, rfl⟩ rfl hd_X8_letter ⟨(Nat.le_of_ble_eq_true rfl), (Nat.le_of_ble_eq_true rfl)⟩ rfl (Nat.le_of_ble_eq_true rfl) rfl dL_isSo_832 ?_
                                  refine j_iload (pc := 835) X dL_isSo_835 rfl ?_
                                  obtain ⟨j847_139, ej847_139, hf⟩ := jn_s hf
                                  have hj847_139 : ∀ (t139 : Int32), j847_139 t139 = some r → JA (gC g ((cs + 1) + 13) ((sl + 12) + 156)) (WCL2 cI cS cJ ad al q4 q5 p130) 17 847 [some (.ref (ad 0)), some (.ref (al 0)), some (.ref (al 1)), some (.ref (al 2)), some (.ref q4), some (.ref q5), some (.int x85), some (.int x94), some (.int x87), some (.int x131), some (.int x69), some (.int r75), some (.int r78), some (.int r82), some (.int t83), some (.int x124), none] [.int t139, .int r138] := by
                                    intro t139 hf
                                    have hf := jE1 ej847_139 hf
                                    refine j_icmp_ne (tgt := 866) (pc := 847) X dL_isSo_847 rfl (fun c141 => ?_) (fun c141 => ?_)
                                    · have hf := kF c141 hf
                                      exact hj866_134 () hf
                                    · have hf := kT c141 hf
                                      refine j_iload (pc := 850) X dL_isSo_850 rfl ?_
                                      obtain ⟨j862_141, ej862_141, hf⟩ := jn_s hf
                                      have hj862_141 : ∀ (_ : Unit), j862_141 = some r → JA (gC g ((cs + 1) + 13) ((sl + 12) + 156)) (WCL2 cI cS cJ ad al q4 q5 p130) 17 862 [some (.ref (ad 0)), some (.ref (al 0)), some (.ref (al 1)), some (.ref (al 2)), some (.ref q4), some (.ref q5), some (.int x85), some (.int x94), some (.int x87), some (.int x131), some (.int x69), some (.int r75), some (.int r78), some (.int r82), some (.int t83), some (.int x124), none] [] := by
                                        intro _ hf
                                        have hf := jE0 ej862_141 hf
                                        refine j_iconst (pc := 862) X dL_isSo_862 kcL_1 ?_
                                        refine j_goto (tgt := 867) (pc := 863) X dL_isSo_863 rfl ?_
                                        exact hj867_133 _ hf
                                      refine j_if_lt (tgt := 862) (pc := 852) X dL_isSo_852 rfl (fun c143 => ?_) (fun c143 => ?_)
                                      · have hf := kT c143 hf
                                        exact hj862_141 () hf
                                      · have hf := kF c143 hf
                                        refine j_iload (pc := 855) X dL_isSo_855 rfl ?_
                                        refine j_iload (pc := 857) X dL_isSo_857 rfl ?_
                                        refine j_icmp_lt (tgt := 866) (pc := 859) X dL_isSo_859 rfl (fun c144 => ?_) (fun c144 => ?_)
                                        · have hf := kT c144 hf
                                          exact hj866_134 () hf
                                        · have hf := kF c144 hf
                                          exact hj862_141 () hf
                                  refine j_if_ge (tgt := 845) (pc := 837) X dL_isSo_837 rfl (fun c145 => ?_) (fun c145 => ?_)
                                  · have hf := kT c145 hf
                                    refine j_bipush (pc := 845) X dL_isSo_845 kbL_m12 ?_
                                    exact hj847_139 _ hf
                                  · have hf := kF c145 hf
                                    refine j_bipush (pc := 840) X dL_isSo_840 kbL_m14 ?_
                                    refine j_goto (tgt := 847) (pc := 842) X dL_isSo_842 rfl ?_
                                    exact hj847_139 _ hf
                              exact lt_L_isSo_744 X X0 hE hA hI hq4 hq5 hD hR N x69 r75 r78 r82 t83 x85 x87 x94 x124 p130 k822_131 hk822_131 N _ _ hf
                            refine j_if_eq (tgt := 738) (pc := 731) X dL_isSo_731 rfl (fun c166 => ?_) (fun c166 => ?_)
                            · have hf := kT c166 hf
                              refine j_iconst (pc := 738) X dL_isSo_738 kcL_0 ?_
                              exact hj739_127 _ hf
                            · have hf := kF c166 hf
                              refine j_iconst (pc := 734) X dL_isSo_734 kcL_1 ?_
                              refine j_goto (tgt := 739) (pc := 735) X dL_isSo_735 rfl ?_
                              exact hj739_127 _ hf
                          exact lt_L_isSo_689 X X0 hE hA hI hq4 hq5 hD hR N x69 r75 r78 r82 t83 x85 x87 t92 x94 p123 k724_124 hk724_124 N _ _ hf
                        refine j_if_ge (tgt := 683) (pc := 676) X dL_isSo_676 rfl (fun c176 => ?_) (fun c176 => ?_)
                        · have hf := kT c176 hf
                          refine j_iload (pc := 683) X dL_isSo_683 rfl ?_
                          exact hj685_120 _ hf
                        · have hf := kF c176 hf
                          refine j_iconst (pc := 679) X dL_isSo_679 kcL_m1 ?_
                          refine j_goto (tgt := 685) (pc := 680) X dL_isSo_680 rfl ?_
                          exact hj685_120 _ hf
                      refine j_if_lt (tgt := 667) (pc := 660) X dL_isSo_660 rfl (fun c177 => ?_) (fun c177 => ?_)
                      · have hf := kT c177 hf
                        refine j_iconst (pc := 667) X dL_isSo_667 kcL_0 ?_
                        exact hj668_118 _ hf
                      · have hf := kF c177 hf
                        refine j_iconst (pc := 663) X dL_isSo_663 kcL_1 ?_
                        refine j_goto (tgt := 668) (pc := 664) X dL_isSo_664 rfl ?_
                        exact hj668_118 _ hf
                    refine j_if_ge (tgt := 655) (pc := 648) X dL_isSo_648 rfl (fun c178 => ?_) (fun c178 => ?_)
                    · have hf := kT c178 hf
                      refine j_iconst (pc := 655) X dL_isSo_655 kcL_1 ?_
                      exact hj656_114 _ hf
                    · have hf := kF c178 hf
                      refine j_iconst (pc := 651) X dL_isSo_651 kcL_0 ?_
                      refine j_goto (tgt := 656) (pc := 652) X dL_isSo_652 rfl ?_
                      exact hj656_114 _ hf
                  refine j_if_ge (tgt := 634) (pc := 627) X dL_isSo_627 rfl (fun c179 => ?_) (fun c179 => ?_)
                  · have hf := kT c179 hf
                    refine j_iload (pc := 634) X dL_isSo_634 rfl ?_
                    refine j_iload (pc := 636) X dL_isSo_636 rfl ?_
                    refine j_isub (pc := 638) X dL_isSo_638 ?_
                    exact hj639_109 _ hf
                  · have hf := kF c179 hf
                    refine j_iconst (pc := 630) X dL_isSo_630 kcL_0 ?_
                    refine j_goto (tgt := 639) (pc := 631) X dL_isSo_631 rfl ?_
                    exact hj639_109 _ hf
                obtain ⟨j608_179, ej608_179, hf⟩ := jn_s hf
                have hj608_179 : ∀ (_ : Unit), j608_179 = some r → JA (gC g ((cs + 1) + 13) ((sl + 12) + 156)) (WCL2 cI cS cJ ad al q4 q5 p99) 17 608 [some (.ref (ad 0)), some (.ref (al 0)), some (.ref (al 1)), some (.ref (al 2)), some (.ref q4), some (.ref q5), some (.int x85), some (.int x94), some (.int x87), some (.int t92), some (.int x69), some (.int r75), some (.int r78), some (.int r82), some (.int t83), none, none] [.int (p99.2 4 (1 : Int32).toNatClampNeg), .int 1, .ref q4] := by
                  intro _ hf
                  have hf := jE0 ej608_179 hf
                  refine j_iconst (pc := 608) X dL_isSo_608 kcL_0 ?_
                  exact hj609_101 _ hf
                refine j_if_lt (tgt := 608) (pc := 592) X dL_isSo_592 rfl (fun c181 => ?_) (fun c181 => ?_)
                · have hf := kT c181 hf
                  exact hj608_179 () hf
                · have hf := kF c181 hf
                  refine j_iload (pc := 595) X dL_isSo_595 rfl ?_
                  obtain ⟨r183, h182, hf⟩ := kB hf
                  refine j_callP (pc := 597) X (c_L_ones N t83 h182) gL_isSo_L_ones rfl ⟨rfl, rfl⟩ hd_L_ones ⟨(Nat.le_of_ble_eq_true rfl), (Nat.le_of_ble_eq_true rfl)⟩ rfl (Nat.le_of_ble_eq_true rfl) rfl dL_isSo_597 ?_
                  refine j_iconst (pc := 600) X dL_isSo_600 kcL_1 ?_
                  refine j_icmp_ne (tgt := 608) (pc := 601) X dL_isSo_601 rfl (fun c184 => ?_) (fun c184 => ?_)
                  · have hf := kF c184 hf
                    exact hj608_179 () hf
                  · have hf := kT c184 hf
                    refine j_iconst (pc := 604) X dL_isSo_604 kcL_1 ?_
                    refine j_goto (tgt := 609) (pc := 605) X dL_isSo_605 rfl ?_
                    exact hj609_101 _ hf
              refine j_if_ge (tgt := 582) (pc := 575) X dL_isSo_575 rfl (fun c185 => ?_) (fun c185 => ?_)
              · have hf := kT c185 hf
                refine j_iconst (pc := 582) X dL_isSo_582 kcL_1 ?_
                exact hj583_96 _ hf
              · have hf := kF c185 hf
                refine j_iconst (pc := 578) X dL_isSo_578 kcL_0 ?_
                refine j_goto (tgt := 583) (pc := 579) X dL_isSo_579 rfl ?_
                exact hj583_96 _ hf
            obtain ⟨j558_185, ej558_185, hf⟩ := jn_s hf
            have hj558_185 : ∀ (_ : Unit), j558_185 = some r → JA (gC g ((cs + 1) + 13) ((sl + 12) + 156)) (WCL2 cI cS cJ ad al q4 q5 p89) 17 558 [some (.ref (ad 0)), some (.ref (al 0)), some (.ref (al 1)), some (.ref (al 2)), some (.ref q4), some (.ref q5), some (.int x85), some (.int (x86 + (p89.2 0 (3 : Int32).toNatClampNeg))), some (.int x87), some (.int x88), some (.int x69), some (.int r75), some (.int r78), some (.int r82), some (.int t83), none, none] [] := by
              intro _ hf
              have hf := jE0 ej558_185 hf
              refine j_iconst (pc := 558) X dL_isSo_558 kcL_0 ?_
              exact hj559_92 _ hf
            refine j_if_eq (tgt := 558) (pc := 365) X dL_isSo_365 rfl (fun c187 => ?_) (fun c187 => ?_)
            · have hf := kT c187 hf
              exact hj558_185 () hf
            · have hf := kF c187 hf
              refine j_aload_n (pc := 368) X dL_isSo_368 rfl ?_
              refine j_iload (pc := 369) X dL_isSo_369 rfl ?_
              refine j_iconst (pc := 371) X dL_isSo_371 kcL_0 ?_
              obtain ⟨r189, h188, hf⟩ := kB hf
              refine a_cI (pc := 372) X (fun _ h => P_l (P_l (P_l h))) (c_X8_word N p89.1 x69 0 h188) gL_isSo_X8_word rfl ⟨rfl, rfl⟩ rfl hd_X8_word ⟨(Nat.le_of_ble_eq_true rfl), (Nat.le_of_ble_eq_true rfl)⟩ rfl (Nat.le_of_ble_eq_true rfl) rfl dL_isSo_372 ?_
              refine j_aload_n (pc := 375) X dL_isSo_375 rfl ?_
              refine j_iload (pc := 376) X dL_isSo_376 rfl ?_
              obtain ⟨b190, hf⟩ := gIn_s hf
              refine a_lald (pc := 378) X hE wcm_2 b190 dL_isSo_378 ?_
              obtain ⟨r192, h191, hf⟩ := kB hf
              refine j_callP (pc := 379) X (c_L_length N ((p89.2 2 x69.toNatClampNeg).toInt64) h191) gL_isSo_L_length rfl ⟨rfl, rfl⟩ hd_L_length ⟨(Nat.le_of_ble_eq_true rfl), (Nat.le_of_ble_eq_true rfl)⟩ rfl (Nat.le_of_ble_eq_true rfl) rfl dL_isSo_379 ?_
              refine j_icmp_ne (tgt := 558) (pc := 382) X dL_isSo_382 rfl (fun c193 => ?_) (fun c193 => ?_)
              · have hf := kF c193 hf
                exact hj558_185 () hf
              · have hf := kT c193 hf
                refine j_aload_n (pc := 385) X dL_isSo_385 rfl ?_
                refine j_iload (pc := 386) X dL_isSo_386 rfl ?_
                refine j_iconst (pc := 388) X dL_isSo_388 kcL_1 ?_
                obtain ⟨r195, h194, hf⟩ := kB hf
                refine a_cI (pc := 389) X (fun _ h => P_l (P_l (P_l h))) (c_X8_word N p89.1 x69 1 h194) gL_isSo_X8_word rfl ⟨rfl, rfl⟩ rfl hd_X8_word ⟨(Nat.le_of_ble_eq_true rfl), (Nat.le_of_ble_eq_true rfl)⟩ rfl (Nat.le_of_ble_eq_true rfl) rfl dL_isSo_389 ?_
                refine j_iload (pc := 392) X dL_isSo_392 rfl ?_
                refine j_icmp_ne (tgt := 558) (pc := 394) X dL_isSo_394 rfl (fun c196 => ?_) (fun c196 => ?_)
                · have hf := kF c196 hf
                  exact hj558_185 () hf
                · have hf := kT c196 hf
                  refine j_aload_n (pc := 397) X dL_isSo_397 rfl ?_
                  refine j_iload (pc := 398) X dL_isSo_398 rfl ?_
                  refine j_iconst (pc := 400) X dL_isSo_400 kcL_2 ?_
                  obtain ⟨r198, h197, hf⟩ := kB hf
                  refine a_cI (pc := 401) X (fun _ h => P_l (P_l (P_l h))) (c_X8_word N p89.1 x69 2 h197) gL_isSo_X8_word rfl ⟨rfl, rfl⟩ rfl hd_X8_word ⟨(Nat.le_of_ble_eq_true rfl), (Nat.le_of_ble_eq_true rfl)⟩ rfl (Nat.le_of_ble_eq_true rfl) rfl dL_isSo_401 ?_
                  refine j_iload (pc := 404) X dL_isSo_404 rfl ?_
                  refine j_icmp_ne (tgt := 558) (pc := 406) X dL_isSo_406 rfl (fun c199 => ?_) (fun c199 => ?_)
                  · have hf := kF c199 hf
                    exact hj558_185 () hf
                  · have hf := kT c199 hf
                    refine j_aload_n (pc := 409) X dL_isSo_409 rfl ?_
                    refine j_iload (pc := 410) X dL_isSo_410 rfl ?_
                    refine j_iconst (pc := 412) X dL_isSo_412 kcL_3 ?_
                    obtain ⟨r201, h200, hf⟩ := kB hf
                    refine a_cI (pc := 413) X (fun _ h => P_l (P_l (P_l h))) (c_X8_word N p89.1 x69 3 h200) gL_isSo_X8_word rfl ⟨rfl, rfl⟩ rfl hd_X8_word ⟨(Nat.le_of_ble_eq_true rfl), (Nat.le_of_ble_eq_true rfl)⟩ rfl (Nat.le_of_ble_eq_true rfl) rfl dL_isSo_413 ?_
                    refine j_iload (pc := 416) X dL_isSo_416 rfl ?_
                    obtain ⟨j426_202, ej426_202, hf⟩ := jn_s hf
                    have hj426_202 : ∀ (t202 : Int32), j426_202 t202 = some r → JA (gC g ((cs + 1) + 13) ((sl + 12) + 156)) (WCL2 cI cS cJ ad al q4 q5 p89) 17 426 [some (.ref (ad 0)), some (.ref (al 0)), some (.ref (al 1)), some (.ref (al 2)), some (.ref q4), some (.ref q5), some (.int x85), some (.int (x86 + (p89.2 0 (3 : Int32).toNatClampNeg))), some (.int x87), some (.int x88), some (.int x69), some (.int r75), some (.int r78), some (.int r82), some (.int t83), none, none] [.int t202, .int r201] := by
                      intro t202 hf
                      have hf := jE1 ej426_202 hf
                      refine j_icmp_ne (tgt := 558) (pc := 426) X dL_isSo_426 rfl (fun c204 => ?_) (fun c204 => ?_)
                      · have hf := kF c204 hf
                        exact hj558_185 () hf
                      · have hf := kT c204 hf
                        refine j_aload_n (pc := 429) X dL_isSo_429 rfl ?_
                        refine j_iload (pc := 430) X dL_isSo_430 rfl ?_
                        refine j_iconst (pc := 432) X dL_isSo_432 kcL_4 ?_
                        obtain ⟨r206, h205, hf⟩ := kB hf
                        refine a_cI (pc := 433) X (fun _ h => P_l (P_l (P_l h))) (c_X8_word N p89.1 x69 4 h205) gL_isSo_X8_word rfl ⟨rfl, rfl⟩ rfl hd_X8_word ⟨(Nat.le_of_ble_eq_true rfl), (Nat.le_of_ble_eq_true rfl)⟩ rfl (Nat.le_of_ble_eq_true rfl) rfl dL_isSo_433 ?_
                        refine j_iload (pc := 436) X dL_isSo_436 rfl ?_
                        obtain ⟨j450_207, ej450_207, hf⟩ := jn_s hf
                        have hj450_207 : ∀ (t207 : Int32), j450_207 t207 = some r → JA (gC g ((cs + 1) + 13) ((sl + 12) + 156)) (WCL2 cI cS cJ ad al q4 q5 p89) 17 450 [some (.ref (ad 0)), some (.ref (al 0)), some (.ref (al 1)), some (.ref (al 2)), some (.ref q4), some (.ref q5), some (.int x85), some (.int (x86 + (p89.2 0 (3 : Int32).toNatClampNeg))), some (.int x87), some (.int x88), some (.int x69), some (.int r75), some (.int r78), some (.int r82), some (.int t83), none, none] [.int t207, .int r206] := by
                          intro t207 hf
                          have hf := jE1 ej450_207 hf
                          refine j_icmp_ne (tgt := 558) (pc := 450) X dL_isSo_450 rfl (fun c209 => ?_) (fun c209 => ?_)
                          · have hf := kF c209 hf
                            exact hj558_185 () hf
                          · have hf := kT c209 hf
                            refine j_aload_n (pc := 453) X dL_isSo_453 rfl ?_
                            refine j_iload (pc := 454) X dL_isSo_454 rfl ?_
                            refine j_iconst (pc := 456) X dL_isSo_456 kcL_5 ?_
                            obtain ⟨r211, h210, hf⟩ := kB hf
                            refine a_cI (pc := 457) X (fun _ h => P_l (P_l (P_l h))) (c_X8_word N p89.1 x69 5 h210) gL_isSo_X8_word rfl ⟨rfl, rfl⟩ rfl hd_X8_word ⟨(Nat.le_of_ble_eq_true rfl), (Nat.le_of_ble_eq_true rfl)⟩ rfl (Nat.le_of_ble_eq_true rfl) rfl dL_isSo_457 ?_
                            refine j_iload (pc := 460) X dL_isSo_460 rfl ?_
                            obtain ⟨j476_212, ej476_212, hf⟩ := jn_s hf
                            have hj476_212 : ∀ (t212 : Int32), j476_212 t212 = some r → JA (gC g ((cs + 1) + 13) ((sl + 12) + 156)) (WCL2 cI cS cJ ad al q4 q5 p89) 17 476 [some (.ref (ad 0)), some (.ref (al 0)), some (.ref (al 1)), some (.ref (al 2)), some (.ref q4), some (.ref q5), some (.int x85), some (.int (x86 + (p89.2 0 (3 : Int32).toNatClampNeg))), some (.int x87), some (.int x88), some (.int x69), some (.int r75), some (.int r78), some (.int r82), some (.int t83), none, none] [.int t212, .int r211] := by
                              intro t212 hf
                              have hf := jE1 ej476_212 hf
                              refine j_icmp_ne (tgt := 558) (pc := 476) X dL_isSo_476 rfl (fun c214 => ?_) (fun c214 => ?_)
                              · have hf := kF c214 hf
                                exact hj558_185 () hf
                              · have hf := kT c214 hf
                                refine j_aload_n (pc := 479) X dL_isSo_479 rfl ?_
                                refine j_iload (pc := 480) X dL_isSo_480 rfl ?_
                                refine j_bipush (pc := 482) X dL_isSo_482 kbL_6 ?_
                                obtain ⟨r216, h215, hf⟩ := kB hf
                                refine a_cI (pc := 484) X (fun _ h => P_l (P_l (P_l h))) (c_X8_word N p89.1 x69 6 h215) gL_isSo_X8_word rfl ⟨rfl, rfl⟩ rfl hd_X8_word ⟨(Nat.le_of_ble_eq_true rfl), (Nat.le_of_ble_eq_true rfl)⟩ rfl (Nat.le_of_ble_eq_true rfl) rfl dL_isSo_484 ?_
                                refine j_iload (pc := 487) X dL_isSo_487 rfl ?_
                                refine j_icmp_ne (tgt := 558) (pc := 489) X dL_isSo_489 rfl (fun c217 => ?_) (fun c217 => ?_)
                                · have hf := kF c217 hf
                                  exact hj558_185 () hf
                                · have hf := kT c217 hf
                                  refine j_aload_n (pc := 492) X dL_isSo_492 rfl ?_
                                  refine j_iload (pc := 493) X dL_isSo_493 rfl ?_
                                  refine j_bipush (pc := 495) X dL_isSo_495 kbL_7 ?_
                                  obtain ⟨r219, h218, hf⟩ := kB hf
                                  refine a_cI (pc := 497) X (fun _ h => P_l (P_l (P_l h))) (c_X8_word N p89.1 x69 7 h218) gL_isSo_X8_word rfl ⟨rfl, rfl⟩ rfl hd_X8_word ⟨(Nat.le_of_ble_eq_true rfl), (Nat.le_of_ble_eq_true rfl)⟩ rfl (Nat.le_of_ble_eq_true rfl) rfl dL_isSo_497 ?_
                                  refine j_iload (pc := 500) X dL_isSo_500 rfl ?_
                                  refine j_icmp_ne (tgt := 558) (pc := 502) X dL_isSo_502 rfl (fun c220 => ?_) (fun c220 => ?_)
                                  · have hf := kF c220 hf
                                    exact hj558_185 () hf
                                  · have hf := kT c220 hf
                                    refine j_aload_n (pc := 505) X dL_isSo_505 rfl ?_
                                    refine j_iload (pc := 506) X dL_isSo_506 rfl ?_
                                    refine j_bipush (pc := 508) X dL_isSo_508 kbL_8 ?_
                                    obtain ⟨r222, h221, hf⟩ := kB hf
                                    refine a_cI (pc := 510) X (fun _ h => P_l (P_l (P_l h))) (c_X8_word N p89.1 x69 8 h221) gL_isSo_X8_word rfl ⟨rfl, rfl⟩ rfl hd_X8_word ⟨(Nat.le_of_ble_eq_true rfl), (Nat.le_of_ble_eq_true rfl)⟩ rfl (Nat.le_of_ble_eq_true rfl) rfl dL_isSo_510 ?_
                                    refine j_iload (pc := 513) X dL_isSo_513 rfl ?_
                                    obtain ⟨j525_223, ej525_223, hf⟩ := jn_s hf
                                    have hj525_223 : ∀ (t223 : Int32), j525_223 t223 = some r → JA (gC g ((cs + 1) + 13) ((sl + 12) + 156)) (WCL2 cI cS cJ ad al q4 q5 p89) 17 525 [some (.ref (ad 0)), some (.ref (al 0)), some (.ref (al 1)), some (.ref (al 2)), some (.ref q4), some (.ref q5), some (.int x85), some (.int (x86 + (p89.2 0 (3 : Int32).toNatClampNeg))), some (.int x87), some (.int x88), some (.int x69), some (.int r75), some (.int r78), some (.int r82), some (.int t83), none, none] [.int t223, .int r222] := by
                                      intro t223 hf
                                      have hf := jE1 ej525_223 hf
                                      refine j_icmp_ne (tgt := 558) (pc := 525) X dL_isSo_525 rfl (fun c225 => ?_) (fun c225 => ?_)
                                      · have hf := kF c225 hf
                                        exact hj558_185 () hf
                                      · have hf := kT c225 hf
                                        refine j_aload_n (pc := 528) X dL_isSo_528 rfl ?_
                                        refine j_iload (pc := 529) X dL_isSo_529 rfl ?_
                                        refine j_bipush (pc := 531) X dL_isSo_531 kbL_9 ?_
                                        obtain ⟨r227, h226, hf⟩ := kB hf
                                        refine a_cI (pc := 533) X (fun _ h => P_l (P_l (P_l h))) (c_X8_word N p89.1 x69 9 h226) gL_isSo_X8_word rfl ⟨rfl, rfl⟩ rfl hd_X8_word ⟨(Nat.le_of_ble_eq_true rfl), (Nat.le_of_ble_eq_true rfl)⟩ rfl (Nat.le_of_ble_eq_true rfl) rfl dL_isSo_533 ?_
                                        refine j_iload (pc := 536) X dL_isSo_536 rfl ?_
                                        obtain ⟨j551_228, ej551_228, hf⟩ := jn_s hf
                                        have hj551_228 : ∀ (t228 : Int32), j551_228 t228 = some r → JA (gC g ((cs + 1) + 13) ((sl + 12) + 156)) (WCL2 cI cS cJ ad al q4 q5 p89) 17 551 [some (.ref (ad 0)), some (.ref (al 0)), some (.ref (al 1)), some (.ref (al 2)), some (.ref q4), some (.ref q5), some (.int x85), some (.int (x86 + (p89.2 0 (3 : Int32).toNatClampNeg))), some (.int x87), some (.int x88), some (.int x69), some (.int r75), some (.int r78), some (.int r82), some (.int t83), none, none] [.int t228, .int r227] := by
                                          intro t228 hf
                                          have hf := jE1 ej551_228 hf
                                          refine j_icmp_ne (tgt := 558) (pc := 551) X dL_isSo_551 rfl (fun c230 => ?_) (fun c230 => ?_)
                                          · have hf := kF c230 hf
                                            exact hj558_185 () hf
                                          · have hf := kT c230 hf
                                            refine j_iconst (pc := 554) X dL_isSo_554 kcL_1 ?_
                                            refine j_goto (tgt := 559) (pc := 555) X dL_isSo_555 rfl ?_
                                            exact hj559_92 _ hf
                                        refine j_if_ge (tgt := 546) (pc := 538) X dL_isSo_538 rfl (fun c231 => ?_) (fun c231 => ?_)
                                        · have hf := kT c231 hf
                                          refine j_iload (pc := 546) X dL_isSo_546 rfl ?_
                                          obtain ⟨r233, h232, hf⟩ := kB hf
                                          refine j_callP (pc := 548) X (c_L_ones N t83 h232) gL_isSo_L_ones rfl ⟨rfl, rfl⟩ hd_L_ones ⟨(Nat.le_of_ble_eq_true rfl), (Nat.le_of_ble_eq_true rfl)⟩ rfl (Nat.le_of_ble_eq_true rfl) rfl dL_isSo_548 ?_
                                          exact hj551_228 _ hf
                                        · have hf := kF c231 hf
                                          refine j_bipush (pc := 541) X dL_isSo_541 kbL_m14 ?_
                                          refine j_goto (tgt := 551) (pc := 543) X dL_isSo_543 rfl ?_
                                          exact hj551_228 _ hf
                                    refine j_if_ge (tgt := 523) (pc := 515) X dL_isSo_515 rfl (fun c234 => ?_) (fun c234 => ?_)
                                    · have hf := kT c234 hf
                                      refine j_iload (pc := 523) X dL_isSo_523 rfl ?_
                                      exact hj525_223 _ hf
                                    · have hf := kF c234 hf
                                      refine j_bipush (pc := 518) X dL_isSo_518 kbL_m14 ?_
                                      refine j_goto (tgt := 525) (pc := 520) X dL_isSo_520 rfl ?_
                                      exact hj525_223 _ hf
                            refine j_if_ge (tgt := 470) (pc := 462) X dL_isSo_462 rfl (fun c235 => ?_) (fun c235 => ?_)
                            · have hf := kT c235 hf
                              refine j_iload (pc := 470) X dL_isSo_470 rfl ?_
                              refine j_iconst (pc := 472) X dL_isSo_472 kcL_3 ?_
                              obtain ⟨z236, hf⟩ := gNz_s hf
                              refine j_irem (pc := 473) X dL_isSo_473 z236 ?_
                              refine j_iconst (pc := 474) X dL_isSo_474 kcL_1 ?_
                              refine j_isub (pc := 475) X dL_isSo_475 ?_
                              exact hj476_212 _ hf
                            · have hf := kF c235 hf
                              refine j_bipush (pc := 465) X dL_isSo_465 kbL_m14 ?_
                              refine j_goto (tgt := 476) (pc := 467) X dL_isSo_467 rfl ?_
                              exact hj476_212 _ hf
                        refine j_if_ge (tgt := 446) (pc := 438) X dL_isSo_438 rfl (fun c237 => ?_) (fun c237 => ?_)
                        · have hf := kT c237 hf
                          refine j_iload (pc := 446) X dL_isSo_446 rfl ?_
                          refine j_iconst (pc := 448) X dL_isSo_448 kcL_3 ?_
                          obtain ⟨z238, hf⟩ := gNz_s hf
                          refine j_idiv (pc := 449) X dL_isSo_449 z238 ?_
                          exact hj450_207 _ hf
                        · have hf := kF c237 hf
                          refine j_bipush (pc := 441) X dL_isSo_441 kbL_m14 ?_
                          refine j_goto (tgt := 450) (pc := 443) X dL_isSo_443 rfl ?_
                          exact hj450_207 _ hf
                    refine j_if_ge (tgt := 425) (pc := 418) X dL_isSo_418 rfl (fun c239 => ?_) (fun c239 => ?_)
                    · have hf := kT c239 hf
                      refine j_iconst (pc := 425) X dL_isSo_425 kcL_1 ?_
                      exact hj426_202 _ hf
                    · have hf := kF c239 hf
                      refine j_iconst (pc := 421) X dL_isSo_421 kcL_0 ?_
                      refine j_goto (tgt := 426) (pc := 422) X dL_isSo_422 rfl ?_
                      exact hj426_202 _ hf
          obtain ⟨j221_239, ej221_239, hf⟩ := jn_s hf
          have hj221_239 : ∀ (_ : Unit), j221_239 = some r → JA (gC g ((cs + 1) + 13) ((sl + 12) + 156)) (WCL2 cI cS cJ ad al q4 q5 p70) 17 221 [some (.ref (ad 0)), some (.ref (al 0)), some (.ref (al 1)), some (.ref (al 2)), some (.ref q4), some (.ref q5), some (.int x65), some (.int x66), some (.int x67), some (.int x68), some (.int x69), some (.int r75), some (.int r78), some (.int r82), some (.int t83), none, none] [] := by
            intro _ hf
            have hf := jE0 ej221_239 hf
            refine j_iload (pc := 221) X dL_isSo_221 rfl ?_
            obtain ⟨j311_241, ej311_241, hf⟩ := jn_s hf
            have hj311_241 : ∀ (t241 : Int32), j311_241 t241 = some r → JA (gC g ((cs + 1) + 13) ((sl + 12) + 156)) (WCL2 cI cS cJ ad al q4 q5 p70) 17 311 [some (.ref (ad 0)), some (.ref (al 0)), some (.ref (al 1)), some (.ref (al 2)), some (.ref q4), some (.ref q5), some (.int x65), some (.int x66), some (.int x67), some (.int x68), some (.int x69), some (.int r75), some (.int r78), some (.int r82), some (.int t83), none, none] [.int t241] := by
              intro t241 hf
              have hf := jE1 ej311_241 hf
              refine j_istore (pc := 311) X dL_isSo_311 (Nat.le_of_ble_eq_true rfl) (lv' := [some (.ref (ad 0)), some (.ref (al 0)), some (.ref (al 1)), some (.ref (al 2)), some (.ref q4), some (.ref q5), some (.int x65), some (.int x66), some (.int x67), some (.int t241), some (.int x69), some (.int r75), some (.int r78), some (.int r82), some (.int t83), none, none]) rfl ?_
              refine j_iinc (pc := 313) X dL_isSo_313 rfl (v := x65 + 1) (by rw [kcL_1]) (Nat.le_of_ble_eq_true rfl) (lv' := [some (.ref (ad 0)), some (.ref (al 0)), some (.ref (al 1)), some (.ref (al 2)), some (.ref q4), some (.ref q5), some (.int (x65 + 1)), some (.int x66), some (.int x67), some (.int t241), some (.int x69), some (.int r75), some (.int r78), some (.int r82), some (.int t83), none, none]) rfl ?_
              refine j_iload (pc := 316) X dL_isSo_316 rfl ?_
              refine j_istore (pc := 318) X dL_isSo_318 (Nat.le_of_ble_eq_true rfl) (lv' := [some (.ref (ad 0)), some (.ref (al 0)), some (.ref (al 1)), some (.ref (al 2)), some (.ref q4), some (.ref q5), some (.int (x65 + 1)), some (.int x66), some (.int x69), some (.int t241), some (.int x69), some (.int r75), some (.int r78), some (.int r82), some (.int t83), none, none]) rfl ?_
              refine j_aload_n (pc := 320) X dL_isSo_320 rfl ?_
              refine j_iconst (pc := 321) X dL_isSo_321 kcL_3 ?_
              obtain ⟨b243, hf⟩ := gIn_s hf
              refine a_iald (pc := 322) X wcm_0 b243 dL_isSo_322 ?_
              refine j_ineg (pc := 323) X dL_isSo_323 ?_
              refine j_istore (pc := 324) X dL_isSo_324 (Nat.le_of_ble_eq_true rfl) (lv' := [some (.ref (ad 0)), some (.ref (al 0)), some (.ref (al 1)), some (.ref (al 2)), some (.ref q4), some (.ref q5), some (.int (x65 + 1)), some (.int (-(p70.2 0 (3 : Int32).toNatClampNeg))), some (.int x69), some (.int t241), some (.int x69), some (.int r75), some (.int r78), some (.int r82), some (.int t83), none, none]) rfl ?_
              refine j_aload (pc := 326) X dL_isSo_326 rfl ?_
              refine j_iconst (pc := 328) X dL_isSo_328 kcL_4 ?_
              refine j_iconst (pc := 329) X dL_isSo_329 kcL_0 ?_
              obtain ⟨b244, hf⟩ := gIn_s hf
              obtain ⟨p245, ep245, hf⟩ := jn_s hf
              refine a_iast (W1 := (WCL2 cI cS cJ ad al q4 q5 p245)) (pc := 330) X hA (hD _) hq4 wcm_4 b244 dL_isSo_330 (by rw [ep245]; exact scm_4 _) ?_
              refine j_iload (pc := 331) X dL_isSo_331 rfl ?_
              obtain ⟨j353_246, ej353_246, hf⟩ := jn_s hf
              have hj353_246 : ∀ (t246 : Int32), j353_246 t246 = some r → JA (gC g ((cs + 1) + 13) ((sl + 12) + 156)) (WCL2 cI cS cJ ad al q4 q5 p245) 17 353 [some (.ref (ad 0)), some (.ref (al 0)), some (.ref (al 1)), some (.ref (al 2)), some (.ref q4), some (.ref q5), some (.int (x65 + 1)), some (.int (-(p70.2 0 (3 : Int32).toNatClampNeg))), some (.int x69), some (.int t241), some (.int x69), some (.int r75), some (.int r78), some (.int r82), some (.int t83), none, none] [.int t246] := by
                intro t246 hf
                have hf := jE1 ej353_246 hf
                refine j_istore (pc := 353) X dL_isSo_353 (Nat.le_of_ble_eq_true rfl) (lv' := [some (.ref (ad 0)), some (.ref (al 0)), some (.ref (al 1)), some (.ref (al 2)), some (.ref q4), some (.ref q5), some (.int (x65 + 1)), some (.int (-(p70.2 0 (3 : Int32).toNatClampNeg))), some (.int x69), some (.int t246), some (.int x69), some (.int r75), some (.int r78), some (.int r82), some (.int t83), none, none]) rfl ?_
                exact hj355_89 _ _ _ _ _ hf
              obtain ⟨j352_247, ej352_247, hf⟩ := jn_s hf
              have hj352_247 : ∀ (_ : Unit), j352_247 = some r → JA (gC g ((cs + 1) + 13) ((sl + 12) + 156)) (WCL2 cI cS cJ ad al q4 q5 p245) 17 352 [some (.ref (ad 0)), some (.ref (al 0)), some (.ref (al 1)), some (.ref (al 2)), some (.ref q4), some (.ref q5), some (.int (x65 + 1)), some (.int (-(p70.2 0 (3 : Int32).toNatClampNeg))), some (.int x69), some (.int t241), some (.int x69), some (.int r75), some (.int r78), some (.int r82), some (.int t83), none, none] [] := by
                intro _ hf
                have hf := jE0 ej352_247 hf
                refine j_iconst (pc := 352) X dL_isSo_352 kcL_0 ?_
                exact hj353_246 _ hf
              refine j_if_eq (tgt := 352) (pc := 333) X dL_isSo_333 rfl (fun c249 => ?_) (fun c249 => ?_)
              · have hf := kT c249 hf
                exact hj352_247 () hf
              · have hf := kF c249 hf
                refine j_aload_n (pc := 336) X dL_isSo_336 rfl ?_
                refine j_iload (pc := 337) X dL_isSo_337 rfl ?_
                refine j_iconst (pc := 339) X dL_isSo_339 kcL_0 ?_
                obtain ⟨r251, h250, hf⟩ := kB hf
                refine a_cI (pc := 340) X (fun _ h => P_l (P_l (P_l h))) (c_X8_line N p245.1 (x65 + 1) 0 h250) gL_isSo_X8_line rfl ⟨rfl, rfl⟩ rfl hd_X8_line ⟨(Nat.le_of_ble_eq_true rfl), (Nat.le_of_ble_eq_true rfl)⟩ rfl (Nat.le_of_ble_eq_true rfl) rfl dL_isSo_340 ?_
                refine j_iload (pc := 343) X dL_isSo_343 rfl ?_
                refine j_icmp_ne (tgt := 352) (pc := 345) X dL_isSo_345 rfl (fun c252 => ?_) (fun c252 => ?_)
                · have hf := kF c252 hf
                  exact hj352_247 () hf
                · have hf := kT c252 hf
                  refine j_iconst (pc := 348) X dL_isSo_348 kcL_1 ?_
                  refine j_goto (tgt := 353) (pc := 349) X dL_isSo_349 rfl ?_
                  exact hj353_246 _ hf
            obtain ⟨j306_252, ej306_252, hf⟩ := jn_s hf
            have hj306_252 : ∀ (_ : Unit), j306_252 = some r → JA (gC g ((cs + 1) + 13) ((sl + 12) + 156)) (WCL2 cI cS cJ ad al q4 q5 p70) 17 306 [some (.ref (ad 0)), some (.ref (al 0)), some (.ref (al 1)), some (.ref (al 2)), some (.ref q4), some (.ref q5), some (.int x65), some (.int x66), some (.int x67), some (.int x68), some (.int x69), some (.int r75), some (.int r78), some (.int r82), some (.int t83), none, none] [] := by
              intro _ hf
              have hf := jE0 ej306_252 hf
              refine j_iconst (pc := 306) X dL_isSo_306 kcL_1 ?_
              refine j_goto (tgt := 311) (pc := 307) X dL_isSo_307 rfl ?_
              exact hj311_241 _ hf
            refine j_if_lt (tgt := 306) (pc := 223) X dL_isSo_223 rfl (fun c254 => ?_) (fun c254 => ?_)
            · have hf := kT c254 hf
              exact hj306_252 () hf
            · have hf := kF c254 hf
              refine j_aload_n (pc := 226) X dL_isSo_226 rfl ?_
              refine j_iload (pc := 227) X dL_isSo_227 rfl ?_
              refine j_iconst (pc := 229) X dL_isSo_229 kcL_1 ?_
              obtain ⟨r256, h255, hf⟩ := kB hf
              refine a_cI (pc := 230) X (fun _ h => P_l (P_l (P_l h))) (c_X8_line N p70.1 x65 1 h255) gL_isSo_X8_line rfl ⟨rfl, rfl⟩ rfl hd_X8_line ⟨(Nat.le_of_ble_eq_true rfl), (Nat.le_of_ble_eq_true rfl)⟩ rfl (Nat.le_of_ble_eq_true rfl) rfl dL_isSo_230 ?_
              refine j_iload (pc := 233) X dL_isSo_233 rfl ?_
              refine j_iload (pc := 235) X dL_isSo_235 rfl ?_
              refine j_isub (pc := 237) X dL_isSo_237 ?_
              obtain ⟨j310_256, ej310_256, hf⟩ := jn_s hf
              have hj310_256 : ∀ (_ : Unit), j310_256 = some r → JA (gC g ((cs + 1) + 13) ((sl + 12) + 156)) (WCL2 cI cS cJ ad al q4 q5 p70) 17 310 [some (.ref (ad 0)), some (.ref (al 0)), some (.ref (al 1)), some (.ref (al 2)), some (.ref q4), some (.ref q5), some (.int x65), some (.int x66), some (.int x67), some (.int x68), some (.int x69), some (.int r75), some (.int r78), some (.int r82), some (.int t83), none, none] [] := by
                intro _ hf
                have hf := jE0 ej310_256 hf
                refine j_iconst (pc := 310) X dL_isSo_310 kcL_0 ?_
                exact hj311_241 _ hf
              refine j_icmp_ne (tgt := 310) (pc := 238) X dL_isSo_238 rfl (fun c258 => ?_) (fun c258 => ?_)
              · have hf := kF c258 hf
                exact hj310_256 () hf
              · have hf := kT c258 hf
                refine j_aload_n (pc := 241) X dL_isSo_241 rfl ?_
                refine j_iload (pc := 242) X dL_isSo_242 rfl ?_
                refine j_iconst (pc := 244) X dL_isSo_244 kcL_2 ?_
                obtain ⟨r260, h259, hf⟩ := kB hf
                refine a_cI (pc := 245) X (fun _ h => P_l (P_l (P_l h))) (c_X8_line N p70.1 x65 2 h259) gL_isSo_X8_line rfl ⟨rfl, rfl⟩ rfl hd_X8_line ⟨(Nat.le_of_ble_eq_true rfl), (Nat.le_of_ble_eq_true rfl)⟩ rfl (Nat.le_of_ble_eq_true rfl) rfl dL_isSo_245 ?_
                refine j_iload (pc := 248) X dL_isSo_248 rfl ?_
                refine j_icmp_ne (tgt := 310) (pc := 250) X dL_isSo_250 rfl (fun c261 => ?_) (fun c261 => ?_)
                · have hf := kF c261 hf
                  exact hj310_256 () hf
                · have hf := kT c261 hf
                  refine j_aload_n (pc := 253) X dL_isSo_253 rfl ?_
                  refine j_iload (pc := 254) X dL_isSo_254 rfl ?_
                  obtain ⟨r263, h262, hf⟩ := kB hf
                  refine a_cI (pc := 256) X (fun _ h => P_l (P_l (P_l h))) (c_X8_widthAgain N p70.1 x65 h262) gL_isSo_X8_widthAgain rfl ⟨rfl, rfl⟩ rfl hd_X8_widthAgain ⟨(Nat.le_of_ble_eq_true rfl), (Nat.le_of_ble_eq_true rfl)⟩ rfl (Nat.le_of_ble_eq_true rfl) rfl dL_isSo_256 ?_
                  refine j_iload (pc := 259) X dL_isSo_259 rfl ?_
                  refine j_icmp_ne (tgt := 310) (pc := 261) X dL_isSo_261 rfl (fun c264 => ?_) (fun c264 => ?_)
                  · have hf := kF c264 hf
                    exact hj310_256 () hf
                  · have hf := kT c264 hf
                    refine j_aload_n (pc := 264) X dL_isSo_264 rfl ?_
                    refine j_iload (pc := 265) X dL_isSo_265 rfl ?_
                    refine j_iconst (pc := 267) X dL_isSo_267 kcL_4 ?_
                    obtain ⟨r266, h265, hf⟩ := kB hf
                    refine a_cI (pc := 268) X (fun _ h => P_l (P_l (P_l h))) (c_X8_line N p70.1 x65 4 h265) gL_isSo_X8_line rfl ⟨rfl, rfl⟩ rfl hd_X8_line ⟨(Nat.le_of_ble_eq_true rfl), (Nat.le_of_ble_eq_true rfl)⟩ rfl (Nat.le_of_ble_eq_true rfl) rfl dL_isSo_268 ?_
                    refine j_aload (pc := 271) X dL_isSo_271 rfl ?_
                    refine j_iconst (pc := 273) X dL_isSo_273 kcL_4 ?_
                    obtain ⟨b267, hf⟩ := gIn_s hf
                    refine a_iald (pc := 274) X wcm_4 b267 dL_isSo_274 ?_
                    refine j_icmp_ne (tgt := 310) (pc := 275) X dL_isSo_275 rfl (fun c268 => ?_) (fun c268 => ?_)
                    · have hf := kF c268 hf
                      exact hj310_256 () hf
                    · have hf := kT c268 hf
                      refine j_aload_n (pc := 278) X dL_isSo_278 rfl ?_
                      refine j_iload (pc := 279) X dL_isSo_279 rfl ?_
                      refine j_iconst (pc := 281) X dL_isSo_281 kcL_3 ?_
                      obtain ⟨r270, h269, hf⟩ := kB hf
                      refine a_cI (pc := 282) X (fun _ h => P_l (P_l (P_l h))) (c_X8_line N p70.1 x65 3 h269) gL_isSo_X8_line rfl ⟨rfl, rfl⟩ rfl hd_X8_line ⟨(Nat.le_of_ble_eq_true rfl), (Nat.le_of_ble_eq_true rfl)⟩ rfl (Nat.le_of_ble_eq_true rfl) rfl dL_isSo_282 ?_
                      refine j_iload (pc := 285) X dL_isSo_285 rfl ?_
                      refine j_aload_n (pc := 287) X dL_isSo_287 rfl ?_
                      refine j_iconst (pc := 288) X dL_isSo_288 kcL_4 ?_
                      obtain ⟨b271, hf⟩ := gIn_s hf
                      refine a_iald (pc := 289) X wcm_0 b271 dL_isSo_289 ?_
                      obtain ⟨j303_272, ej303_272, hf⟩ := jn_s hf
                      have hj303_272 : ∀ (t272 : Int32), j303_272 t272 = some r → JA (gC g ((cs + 1) + 13) ((sl + 12) + 156)) (WCL2 cI cS cJ ad al q4 q5 p70) 17 303 [some (.ref (ad 0)), some (.ref (al 0)), some (.ref (al 1)), some (.ref (al 2)), some (.ref q4), some (.ref q5), some (.int x65), some (.int x66), some (.int x67), some (.int x68), some (.int x69), some (.int r75), some (.int r78), some (.int r82), some (.int t83), none, none] [.int t272, .int r270] := by
                        intro t272 hf
                        have hf := jE1 ej303_272 hf
                        refine j_icmp_ne (tgt := 310) (pc := 303) X dL_isSo_303 rfl (fun c274 => ?_) (fun c274 => ?_)
                        · have hf := kF c274 hf
                          exact hj310_256 () hf
                        · have hf := kT c274 hf
                          exact hj306_252 () hf
                      refine j_icmp_le (tgt := 297) (pc := 290) X dL_isSo_290 rfl (fun c275 => ?_) (fun c275 => ?_)
                      · have hf := kT c275 hf
                        refine j_aload_n (pc := 297) X dL_isSo_297 rfl ?_
                        refine j_iconst (pc := 298) X dL_isSo_298 kcL_4 ?_
                        obtain ⟨b276, hf⟩ := gIn_s hf
                        refine a_iald (pc := 299) X wcm_0 b276 dL_isSo_299 ?_
                        refine j_iload (pc := 300) X dL_isSo_300 rfl ?_
                        refine j_isub (pc := 302) X dL_isSo_302 ?_
                        exact hj303_272 _ hf
                      · have hf := kF c275 hf
                        refine j_iconst (pc := 293) X dL_isSo_293 kcL_0 ?_
                        refine j_goto (tgt := 303) (pc := 294) X dL_isSo_294 rfl ?_
                        exact hj303_272 _ hf
          refine j_if_lt (tgt := 221) (pc := 203) X dL_isSo_203 rfl (fun c277 => ?_) (fun c277 => ?_)
          · have hf := kT c277 hf
            exact hj221_239 () hf
          · have hf := kF c277 hf
            refine j_iload (pc := 206) X dL_isSo_206 rfl ?_
            refine j_aload_n (pc := 208) X dL_isSo_208 rfl ?_
            refine j_iconst (pc := 209) X dL_isSo_209 kcL_3 ?_
            obtain ⟨b278, hf⟩ := gIn_s hf
            refine a_iald (pc := 210) X wcm_0 b278 dL_isSo_210 ?_
            refine j_iadd (pc := 211) X dL_isSo_211 ?_
            refine j_iload (pc := 212) X dL_isSo_212 rfl ?_
            refine j_iadd (pc := 214) X dL_isSo_214 ?_
            refine j_aload_n (pc := 215) X dL_isSo_215 rfl ?_
            refine j_iconst (pc := 216) X dL_isSo_216 kcL_4 ?_
            obtain ⟨b279, hf⟩ := gIn_s hf
            refine a_iald (pc := 217) X wcm_0 b279 dL_isSo_217 ?_
            refine j_icmp_le (tgt := 355) (pc := 218) X dL_isSo_218 rfl (fun c280 => ?_) (fun c280 => ?_)
            · have hf := kT c280 hf
              exact hj355_89 _ _ _ _ _ hf
            · have hf := kF c280 hf
              exact hj221_239 () hf
        refine j_if_ge (tgt := 185) (pc := 178) X dL_isSo_178 rfl (fun c281 => ?_) (fun c281 => ?_)
        · have hf := kT c281 hf
          refine j_aload_n (pc := 185) X dL_isSo_185 rfl ?_
          refine j_aload_n (pc := 186) X dL_isSo_186 rfl ?_
          refine j_aload_n (pc := 187) X dL_isSo_187 rfl ?_
          refine j_aload_n (pc := 188) X dL_isSo_188 rfl ?_
          refine j_iconst (pc := 189) X dL_isSo_189 kcL_0 ?_
          obtain ⟨b282, hf⟩ := gIn_s hf
          refine a_iald (pc := 190) X wcm_0 b282 dL_isSo_190 ?_
          refine j_aload_n (pc := 191) X dL_isSo_191 rfl ?_
          refine j_iconst (pc := 192) X dL_isSo_192 kcL_1 ?_
          obtain ⟨b283, hf⟩ := gIn_s hf
          refine a_iald (pc := 193) X wcm_0 b283 dL_isSo_193 ?_
          refine j_iload (pc := 194) X dL_isSo_194 rfl ?_
          obtain ⟨r285, h284, hf⟩ := kB hf
          refine a_callAL (pc := 196) X hE hA (c_L_under hI.2.1 N p70.2 (p70.2 0 (0 : Int32).toNatClampNeg) (p70.2 0 (1 : Int32).toNatClampNeg) r82 h284) (fun _ h => P_r (P_l (P_l h))) gL_isSo_L_under rfl rfl rfl hd_L_under ⟨(Nat.le_of_ble_eq_true rfl), (Nat.le_of_ble_eq_true rfl)⟩ rfl (by show (cs + 1) + 13 ≤ 128; omega) (by show (sl + 12) + 156 ≤ 1526; omega) (Nat.le_of_ble_eq_true rfl) rfl dL_isSo_196 ?_
          have X := X0.gC (cs := (cs + 1) + 13) (sl := (sl + 12) + 156) (by show (cs + 1) + 13 ≤ 128; omega) (by show (sl + 12) + 156 ≤ 1526; omega)
          exact hj199_83 _ hf
        · have hf := kF c281 hf
          refine j_iconst (pc := 181) X dL_isSo_181 kcL_0 ?_
          refine j_goto (tgt := 199) (pc := 182) X dL_isSo_182 rfl ?_
          refine a_widen (cs2 := (cs + 1) + 13) (sl2 := (sl + 12) + 156) (by omega) (by omega) ?_
          exact hj199_83 _ hf
set_option maxHeartbeats 4000000 in
set_option maxRecDepth 100000 in
theorem lt_L_isSo_85 {g : kG} {cI cS cJ : ClassId} {ad al : Nat → Nat} {cs sl : Nat} (X : Kx (gC g cs sl) cI cS cL_isSo RL wsL_isSo 17 rm_L_isSo) (X0 : Kx g cI cS cL_isSo RL wsL_isSo 17 rm_L_isSo) (hE : kE g.2.2.2.1 cJ g.1.2.2.2.2) (hA : g.2.2.1 = va_S (fun q => g.1.2.2.2.2.heap.size ≤ q) g.1.2.2.2.2.heap) (hI : lwD ad al) {q4 : Nat} (hq4 : g.1.2.2.2.2.heap.size ≤ q4) {q5 : Nat} (hq5 : g.1.2.2.2.2.heap.size ≤ q5) (hD : ∀ z : kS × kS, va_D (fun _ => True) (WCL2 cI cS cJ ad al q4 q5 z)) {r : Int32} (hR : eA g 17 cL_isSo .boolean r 128 1526) (N : Nat) (p2 : kS × kS) (k125_8 : Int32 → Option (Int32)) (hk125_8 : ∀ (x8 : Int32), k125_8 x8 = some r → JA (gC g cs sl) (WCL2 cI cS cJ ad al q4 q5 p2) 17 125 [some (.ref (ad 0)), some (.ref (al 0)), some (.ref (al 1)), some (.ref (al 2)), some (.ref q4), some (.ref q5), some (.int (-1)), some (.int 0), some (.int 0), some (.int x8), none, none, none, none, none, none, none] []) : ∀ (n : Nat) (x286 : Int32) (x287 : Int32), lp_L_isSo_85 N p2 k125_8 n x286 x287 = some r → JA (gC g cs sl) (WCL2 cI cS cJ ad al q4 q5 p2) 17 85 [some (.ref (ad 0)), some (.ref (al 0)), some (.ref (al 1)), some (.ref (al 2)), some (.ref q4), some (.ref q5), some (.int (-1)), some (.int 0), some (.int 0), some (.int x286), some (.int x287), none, none, none, none, none, none] [] := by
  intro n
  induction n with
  | zero =>
    intro x286 x287 hf
    rw [lp_L_isSo_85] at hf
    cases hf
  | succ n ih =>
    intro x286 x287 hf
    rw [lp_L_isSo_85] at hf
    refine j_iload (pc := 85) X dL_isSo_85 rfl ?_
    refine j_iconst (pc := 87) X dL_isSo_87 kcL_5 ?_
    refine j_icmp_ge (tgt := 125) (pc := 88) X dL_isSo_88 rfl (fun c288 => ?_) (fun c288 => ?_)
    · have hf := kT c288 hf
      refine j_weak (lv' := [some (.ref (ad 0)), some (.ref (al 0)), some (.ref (al 1)), some (.ref (al 2)), some (.ref q4), some (.ref q5), some (.int (-1)), some (.int 0), some (.int 0), some (.int x286), none, none, none, none, none, none, none]) (And.intro rfl (And.intro rfl (And.intro rfl (And.intro rfl (And.intro rfl (And.intro rfl (And.intro rfl (And.intro rfl (And.intro rfl (And.intro rfl trivial)))))))))) ?_
      exact hk125_8 _ hf
    · have hf := kF c288 hf
      refine j_iload (pc := 91) X dL_isSo_91 rfl ?_
      obtain ⟨j117_289, ej117_289, hf⟩ := jn_s hf
      have hj117_289 : ∀ (t289 : Int32), j117_289 t289 = some r → JA (gC g cs sl) (WCL2 cI cS cJ ad al q4 q5 p2) 17 117 [some (.ref (ad 0)), some (.ref (al 0)), some (.ref (al 1)), some (.ref (al 2)), some (.ref q4), some (.ref q5), some (.int (-1)), some (.int 0), some (.int 0), some (.int x286), some (.int x287), none, none, none, none, none, none] [.int t289] := by
        intro t289 hf
        have hf := jE1 ej117_289 hf
        refine j_istore (pc := 117) X dL_isSo_117 (Nat.le_of_ble_eq_true rfl) (lv' := [some (.ref (ad 0)), some (.ref (al 0)), some (.ref (al 1)), some (.ref (al 2)), some (.ref q4), some (.ref q5), some (.int (-1)), some (.int 0), some (.int 0), some (.int t289), some (.int x287), none, none, none, none, none, none]) rfl ?_
        refine j_iinc (pc := 119) X dL_isSo_119 rfl (v := x287 + 1) (by rw [kcL_1]) (Nat.le_of_ble_eq_true rfl) (lv' := [some (.ref (ad 0)), some (.ref (al 0)), some (.ref (al 1)), some (.ref (al 2)), some (.ref q4), some (.ref q5), some (.int (-1)), some (.int 0), some (.int 0), some (.int t289), some (.int (x287 + 1)), none, none, none, none, none, none]) rfl ?_
        refine j_goto (tgt := 85) (pc := 122) X dL_isSo_122 rfl ?_
        exact ih _ _ hf
      obtain ⟨j116_290, ej116_290, hf⟩ := jn_s hf
      have hj116_290 : ∀ (_ : Unit), j116_290 = some r → JA (gC g cs sl) (WCL2 cI cS cJ ad al q4 q5 p2) 17 116 [some (.ref (ad 0)), some (.ref (al 0)), some (.ref (al 1)), some (.ref (al 2)), some (.ref q4), some (.ref q5), some (.int (-1)), some (.int 0), some (.int 0), some (.int x286), some (.int x287), none, none, none, none, none, none] [] := by
        intro _ hf
        have hf := jE0 ej116_290 hf
        refine j_iconst (pc := 116) X dL_isSo_116 kcL_0 ?_
        exact hj117_289 _ hf
      refine j_if_eq (tgt := 116) (pc := 93) X dL_isSo_93 rfl (fun c292 => ?_) (fun c292 => ?_)
      · have hf := kT c292 hf
        exact hj116_290 () hf
      · have hf := kF c292 hf
        refine j_aload_n (pc := 96) X dL_isSo_96 rfl ?_
        refine j_bipush (pc := 97) X dL_isSo_97 kbL_6 ?_
        refine j_iload (pc := 99) X dL_isSo_99 rfl ?_
        refine j_iadd (pc := 101) X dL_isSo_101 ?_
        obtain ⟨r294, h293, hf⟩ := kB hf
        refine a_cI (pc := 102) X (fun _ h => P_l (P_l (P_l h))) (c_X8_count N p2.1 (6 + x287) h293) gL_isSo_X8_count rfl ⟨rfl, rfl⟩ rfl hd_X8_count ⟨(Nat.le_of_ble_eq_true rfl), (Nat.le_of_ble_eq_true rfl)⟩ rfl (Nat.le_of_ble_eq_true rfl) rfl dL_isSo_102 ?_
        refine j_aload_n (pc := 105) X dL_isSo_105 rfl ?_
        refine j_iload (pc := 106) X dL_isSo_106 rfl ?_
        obtain ⟨b295, hf⟩ := gIn_s hf
        refine a_iald (pc := 108) X wcm_0 b295 dL_isSo_108 ?_
        refine j_icmp_ne (tgt := 116) (pc := 109) X dL_isSo_109 rfl (fun c296 => ?_) (fun c296 => ?_)
        · have hf := kF c296 hf
          exact hj116_290 () hf
        · have hf := kT c296 hf
          refine j_iconst (pc := 112) X dL_isSo_112 kcL_1 ?_
          refine j_goto (tgt := 117) (pc := 113) X dL_isSo_113 rfl ?_
          exact hj117_289 _ hf
set_option maxHeartbeats 4000000 in
set_option maxRecDepth 100000 in
theorem t_L_isSo {g : kG} {cI cS cJ : ClassId} {ad al : Nat → Nat}  (X0 : Kx g cI cS cL_isSo RL wsL_isSo 17 rm_L_isSo) (hE : kE g.2.2.2.1 cJ g.1.2.2.2.2) (hA : g.2.2.1 = va_S (fun q => g.1.2.2.2.2.heap.size ≤ q) g.1.2.2.2.2.heap) (hI : lwD ad al) {r : Int32} (hR : eA g 17 cL_isSo .boolean r 128 1526) (N : Nat) (p : kS × kS) (hf : f_L_isSo N p = some r) : JA (gC g 0 0) (WCL cI cS cJ ad al p) 17 0 [some (.ref (ad 0)), some (.ref (al 0)), some (.ref (al 1)), some (.ref (al 2)), none, none, none, none, none, none, none, none, none, none, none, none, none] [] := by
  unfold f_L_isSo at hf
  have X := X0.gC (cs := 0) (sl := 0) (Nat.le_of_ble_eq_true rfl) (Nat.le_of_ble_eq_true rfl)
  have hD : ∀ z : kS × kS, va_D (fun _ => True) (WCL cI cS cJ ad al z) := fun z => WCL_D hI
  refine j_bipush (pc := 0) X dL_isSo_0 kbL_6 ?_
  refine a_newa (N := 6) (pc := 2) X hA (hD _) lk_L_isSo_0 (by decide) (by decide) (by decide) (Nat.le_of_ble_eq_true rfl) (Nat.le_of_ble_eq_true rfl) dL_isSo_2 (fun q4 hq4 hD => ?_)
  obtain ⟨p1, ep1, hf⟩ := jn_s hf
  rw [nw_4, ← ep1]
  have hD : va_D (fun _ => True) (WCL1 cI cS cJ ad al q4 p1) := D_of hD WCL1_fst
  have X := X0.gC (cs := 0 + 1) (sl := 0 + 6) (Nat.le_of_ble_eq_true rfl) (Nat.le_of_ble_eq_true rfl)
  refine j_astore (pc := 4) X dL_isSo_4 (Nat.le_of_ble_eq_true rfl) (lv' := [some (.ref (ad 0)), some (.ref (al 0)), some (.ref (al 1)), some (.ref (al 2)), some (.ref q4), none, none, none, none, none, none, none, none, none, none, none, none]) rfl ?_
  refine j_bipush (pc := 6) X dL_isSo_6 kbL_8 ?_
  refine a_newa (N := 8) (pc := 8) X hA hD lk_L_isSo_0 (by decide) (by decide) (by decide) (Nat.le_of_ble_eq_true rfl) (Nat.le_of_ble_eq_true rfl) dL_isSo_8 (fun q5 hq5 hD => ?_)
  obtain ⟨p2, ep2, hf⟩ := jn_s hf
  rw [nw_5, ← ep2]
  have hD : ∀ z : kS × kS, va_D (fun _ => True) (WCL2 cI cS cJ ad al q4 q5 z) := fun z => D_of hD (WCL2_fst (p := (p1.1, up1 p1.2 5 (fun _ => 0))))
  have X := X0.gC (cs := (0 + 1) + 1) (sl := (0 + 6) + 8) (Nat.le_of_ble_eq_true rfl) (Nat.le_of_ble_eq_true rfl)
  refine j_astore (pc := 10) X dL_isSo_10 (Nat.le_of_ble_eq_true rfl) (lv' := [some (.ref (ad 0)), some (.ref (al 0)), some (.ref (al 1)), some (.ref (al 2)), some (.ref q4), some (.ref q5), none, none, none, none, none, none, none, none, none, none, none]) rfl ?_
  refine j_iconst (pc := 12) X dL_isSo_12 kcL_m1 ?_
  refine j_istore (pc := 13) X dL_isSo_13 (Nat.le_of_ble_eq_true rfl) (lv' := [some (.ref (ad 0)), some (.ref (al 0)), some (.ref (al 1)), some (.ref (al 2)), some (.ref q4), some (.ref q5), some (.int (-1)), none, none, none, none, none, none, none, none, none, none]) rfl ?_
  refine j_iconst (pc := 15) X dL_isSo_15 kcL_0 ?_
  refine j_istore (pc := 16) X dL_isSo_16 (Nat.le_of_ble_eq_true rfl) (lv' := [some (.ref (ad 0)), some (.ref (al 0)), some (.ref (al 1)), some (.ref (al 2)), some (.ref q4), some (.ref q5), some (.int (-1)), some (.int 0), none, none, none, none, none, none, none, none, none]) rfl ?_
  refine j_iconst (pc := 18) X dL_isSo_18 kcL_0 ?_
  refine j_istore (pc := 19) X dL_isSo_19 (Nat.le_of_ble_eq_true rfl) (lv' := [some (.ref (ad 0)), some (.ref (al 0)), some (.ref (al 1)), some (.ref (al 2)), some (.ref q4), some (.ref q5), some (.int (-1)), some (.int 0), some (.int 0), none, none, none, none, none, none, none, none]) rfl ?_
  refine j_aload_n (pc := 21) X dL_isSo_21 rfl ?_
  refine j_iconst (pc := 22) X dL_isSo_22 kcL_0 ?_
  obtain ⟨r4, h3, hf⟩ := kB hf
  refine a_cI (pc := 23) X (fun _ h => P_l (P_l (P_l h))) (c_X8_count N p2.1 0 h3) gL_isSo_X8_count rfl ⟨rfl, rfl⟩ rfl hd_X8_count ⟨(Nat.le_of_ble_eq_true rfl), (Nat.le_of_ble_eq_true rfl)⟩ rfl (Nat.le_of_ble_eq_true rfl) rfl dL_isSo_23 ?_
  refine j_aload_n (pc := 26) X dL_isSo_26 rfl ?_
  refine j_iconst (pc := 27) X dL_isSo_27 kcL_5 ?_
  obtain ⟨b5, hf⟩ := gIn_s hf
  refine a_iald (pc := 28) X wcm_0 b5 dL_isSo_28 ?_
  obtain ⟨j80_6, ej80_6, hf⟩ := jn_s hf
  have hj80_6 : ∀ (t6 : Int32), j80_6 t6 = some r → JA (gC g ((0 + 1) + 1) ((0 + 6) + 8)) (WCL2 cI cS cJ ad al q4 q5 p2) 17 80 [some (.ref (ad 0)), some (.ref (al 0)), some (.ref (al 1)), some (.ref (al 2)), some (.ref q4), some (.ref q5), some (.int (-1)), some (.int 0), some (.int 0), none, none, none, none, none, none, none, none] [.int t6] := by
    intro t6 hf
    have hf := jE1 ej80_6 hf
    refine j_istore (pc := 80) X dL_isSo_80 (Nat.le_of_ble_eq_true rfl) (lv' := [some (.ref (ad 0)), some (.ref (al 0)), some (.ref (al 1)), some (.ref (al 2)), some (.ref q4), some (.ref q5), some (.int (-1)), some (.int 0), some (.int 0), some (.int t6), none, none, none, none, none, none, none]) rfl ?_
    refine j_iconst (pc := 82) X dL_isSo_82 kcL_0 ?_
    refine j_istore (pc := 83) X dL_isSo_83 (Nat.le_of_ble_eq_true rfl) (lv' := [some (.ref (ad 0)), some (.ref (al 0)), some (.ref (al 1)), some (.ref (al 2)), some (.ref q4), some (.ref q5), some (.int (-1)), some (.int 0), some (.int 0), some (.int t6), some (.int 0), none, none, none, none, none, none]) rfl ?_
    obtain ⟨k125_8, ek125_8, hf⟩ := jn_s hf
    have hk125_8 : ∀ (x8 : Int32), k125_8 x8 = some r → JA (gC g ((0 + 1) + 1) ((0 + 6) + 8)) (WCL2 cI cS cJ ad al q4 q5 p2) 17 125 [some (.ref (ad 0)), some (.ref (al 0)), some (.ref (al 1)), some (.ref (al 2)), some (.ref q4), some (.ref q5), some (.int (-1)), some (.int 0), some (.int 0), some (.int x8), none, none, none, none, none, none, none] [] := by
      intro x8 hf
      have hf := jE1 ek125_8 hf
      refine j_iconst (pc := 125) X dL_isSo_125 kcL_0 ?_
      refine j_istore (pc := 126) X dL_isSo_126 (Nat.le_of_ble_eq_true rfl) (lv' := [some (.ref (ad 0)), some (.ref (al 0)), some (.ref (al 1)), some (.ref (al 2)), some (.ref q4), some (.ref q5), some (.int (-1)), some (.int 0), some (.int 0), some (.int x8), some (.int 0), none, none, none, none, none, none]) rfl ?_
      obtain ⟨k875_14, ek875_14, hf⟩ := jn_s hf
      have hk875_14 : ∀ (x10 : Int32) (x11 : Int32) (x12 : Int32) (x13 : Int32) (p14 : kS × kS), k875_14 x10 x11 x12 x13 p14 = some r → JA (gC g 128 1526) (WCL2 cI cS cJ ad al q4 q5 p14) 17 875 [some (.ref (ad 0)), some (.ref (al 0)), some (.ref (al 1)), some (.ref (al 2)), some (.ref q4), some (.ref q5), some (.int x10), some (.int x11), some (.int x12), some (.int x13), none, none, none, none, none, none, none] [] := by
        intro x10 x11 x12 x13 p14 hf
        have hf := jE5 ek875_14 hf
        have X := X0.gC (cs := 128) (sl := 1526) (Nat.le_of_ble_eq_true rfl) (Nat.le_of_ble_eq_true rfl)
        refine j_iload (pc := 875) X dL_isSo_875 rfl ?_
        obtain ⟨j929_16, ej929_16, hf⟩ := jn_s hf
        have hj929_16 : ∀ (t16 : Int32), j929_16 t16 = some r → JA (gC g 128 1526) (WCL2 cI cS cJ ad al q4 q5 p14) 17 929 [some (.ref (ad 0)), some (.ref (al 0)), some (.ref (al 1)), some (.ref (al 2)), some (.ref q4), some (.ref q5), some (.int x10), some (.int x11), some (.int x12), some (.int x13), none, none, none, none, none, none, none] [.int t16] := by
          intro t16 hf
          have hf := jE1 ej929_16 hf
          refine j_istore (pc := 929) X dL_isSo_929 (Nat.le_of_ble_eq_true rfl) (lv' := [some (.ref (ad 0)), some (.ref (al 0)), some (.ref (al 1)), some (.ref (al 2)), some (.ref q4), some (.ref q5), some (.int x10), some (.int x11), some (.int x12), some (.int t16), none, none, none, none, none, none, none]) rfl ?_
          refine j_iload (pc := 931) X dL_isSo_931 rfl ?_
          obtain ⟨j1044_18, ej1044_18, hf⟩ := jn_s hf
          have hj1044_18 : ∀ (t18 : Int32), j1044_18 t18 = some r → JA (gC g 128 1526) (WCL2 cI cS cJ ad al q4 q5 p14) 17 1044 [some (.ref (ad 0)), some (.ref (al 0)), some (.ref (al 1)), some (.ref (al 2)), some (.ref q4), some (.ref q5), some (.int x10), some (.int x11), some (.int x12), some (.int t16), none, none, none, none, none, none, none] [.int t18] := by
            intro t18 hf
            have hf := jE1 ej1044_18 hf
            exact a_retAB hR (Nat.le_of_ble_eq_true rfl) (Nat.le_of_ble_eq_true rfl) dL_isSo_1044 hf
          refine j_if_eq (tgt := 1043) (pc := 933) X dL_isSo_933 rfl (fun c20 => ?_) (fun c20 => ?_)
          · have hf := kT c20 hf
            refine j_iconst (pc := 1043) X dL_isSo_1043 kcL_0 ?_
            exact hj1044_18 _ hf
          · have hf := kF c20 hf
            refine j_aload_n (pc := 936) X dL_isSo_936 rfl ?_
            refine j_iconst (pc := 937) X dL_isSo_937 kcL_1 ?_
            obtain ⟨r22, h21, hf⟩ := kB hf
            refine a_cI (pc := 938) X (fun _ h => P_l (P_l (P_l h))) (c_X8_count N p14.1 1 h21) gL_isSo_X8_count rfl ⟨rfl, rfl⟩ rfl hd_X8_count ⟨(Nat.le_of_ble_eq_true rfl), (Nat.le_of_ble_eq_true rfl)⟩ rfl (Nat.le_of_ble_eq_true rfl) rfl dL_isSo_938 ?_
            refine j_aload (pc := 941) X dL_isSo_941 rfl ?_
            refine j_iconst (pc := 943) X dL_isSo_943 kcL_0 ?_
            obtain ⟨b23, hf⟩ := gIn_s hf
            refine a_iald (pc := 944) X wcm_4 b23 dL_isSo_944 ?_
            refine j_icmp_ne (tgt := 1043) (pc := 945) X dL_isSo_945 rfl (fun c24 => ?_) (fun c24 => ?_)
            · have hf := kF c24 hf
              refine j_iconst (pc := 1043) X dL_isSo_1043 kcL_0 ?_
              exact hj1044_18 _ hf
            · have hf := kT c24 hf
              refine j_aload_n (pc := 948) X dL_isSo_948 rfl ?_
              refine j_iconst (pc := 949) X dL_isSo_949 kcL_2 ?_
              obtain ⟨r26, h25, hf⟩ := kB hf
              refine a_cI (pc := 950) X (fun _ h => P_l (P_l (P_l h))) (c_X8_count N p14.1 2 h25) gL_isSo_X8_count rfl ⟨rfl, rfl⟩ rfl hd_X8_count ⟨(Nat.le_of_ble_eq_true rfl), (Nat.le_of_ble_eq_true rfl)⟩ rfl (Nat.le_of_ble_eq_true rfl) rfl dL_isSo_950 ?_
              refine j_iload (pc := 953) X dL_isSo_953 rfl ?_
              refine j_iconst (pc := 955) X dL_isSo_955 kcL_1 ?_
              refine j_iadd (pc := 956) X dL_isSo_956 ?_
              refine j_icmp_ne (tgt := 1043) (pc := 957) X dL_isSo_957 rfl (fun c27 => ?_) (fun c27 => ?_)
              · have hf := kF c27 hf
                refine j_iconst (pc := 1043) X dL_isSo_1043 kcL_0 ?_
                exact hj1044_18 _ hf
              · have hf := kT c27 hf
                refine j_aload_n (pc := 960) X dL_isSo_960 rfl ?_
                refine j_bipush (pc := 961) X dL_isSo_961 kbL_11 ?_
                obtain ⟨r29, h28, hf⟩ := kB hf
                refine a_cI (pc := 963) X (fun _ h => P_l (P_l (P_l h))) (c_X8_count N p14.1 11 h28) gL_isSo_X8_count rfl ⟨rfl, rfl⟩ rfl hd_X8_count ⟨(Nat.le_of_ble_eq_true rfl), (Nat.le_of_ble_eq_true rfl)⟩ rfl (Nat.le_of_ble_eq_true rfl) rfl dL_isSo_963 ?_
                refine j_aload (pc := 966) X dL_isSo_966 rfl ?_
                refine j_iconst (pc := 968) X dL_isSo_968 kcL_1 ?_
                obtain ⟨b30, hf⟩ := gIn_s hf
                refine a_iald (pc := 969) X wcm_4 b30 dL_isSo_969 ?_
                refine j_icmp_ne (tgt := 1043) (pc := 970) X dL_isSo_970 rfl (fun c31 => ?_) (fun c31 => ?_)
                · have hf := kF c31 hf
                  refine j_iconst (pc := 1043) X dL_isSo_1043 kcL_0 ?_
                  exact hj1044_18 _ hf
                · have hf := kT c31 hf
                  refine j_aload_n (pc := 973) X dL_isSo_973 rfl ?_
                  refine j_bipush (pc := 974) X dL_isSo_974 kbL_12 ?_
                  obtain ⟨r33, h32, hf⟩ := kB hf
                  refine a_cI (pc := 976) X (fun _ h => P_l (P_l (P_l h))) (c_X8_count N p14.1 12 h32) gL_isSo_X8_count rfl ⟨rfl, rfl⟩ rfl hd_X8_count ⟨(Nat.le_of_ble_eq_true rfl), (Nat.le_of_ble_eq_true rfl)⟩ rfl (Nat.le_of_ble_eq_true rfl) rfl dL_isSo_976 ?_
                  refine j_aload (pc := 979) X dL_isSo_979 rfl ?_
                  refine j_iconst (pc := 981) X dL_isSo_981 kcL_2 ?_
                  obtain ⟨b34, hf⟩ := gIn_s hf
                  refine a_iald (pc := 982) X wcm_4 b34 dL_isSo_982 ?_
                  refine j_icmp_ne (tgt := 1043) (pc := 983) X dL_isSo_983 rfl (fun c35 => ?_) (fun c35 => ?_)
                  · have hf := kF c35 hf
                    refine j_iconst (pc := 1043) X dL_isSo_1043 kcL_0 ?_
                    exact hj1044_18 _ hf
                  · have hf := kT c35 hf
                    refine j_aload_n (pc := 986) X dL_isSo_986 rfl ?_
                    refine j_bipush (pc := 987) X dL_isSo_987 kbL_13 ?_
                    obtain ⟨r37, h36, hf⟩ := kB hf
                    refine a_cI (pc := 989) X (fun _ h => P_l (P_l (P_l h))) (c_X8_count N p14.1 13 h36) gL_isSo_X8_count rfl ⟨rfl, rfl⟩ rfl hd_X8_count ⟨(Nat.le_of_ble_eq_true rfl), (Nat.le_of_ble_eq_true rfl)⟩ rfl (Nat.le_of_ble_eq_true rfl) rfl dL_isSo_989 ?_
                    refine j_aload (pc := 992) X dL_isSo_992 rfl ?_
                    refine j_iconst (pc := 994) X dL_isSo_994 kcL_3 ?_
                    obtain ⟨b38, hf⟩ := gIn_s hf
                    refine a_iald (pc := 995) X wcm_4 b38 dL_isSo_995 ?_
                    refine j_icmp_ne (tgt := 1043) (pc := 996) X dL_isSo_996 rfl (fun c39 => ?_) (fun c39 => ?_)
                    · have hf := kF c39 hf
                      refine j_iconst (pc := 1043) X dL_isSo_1043 kcL_0 ?_
                      exact hj1044_18 _ hf
                    · have hf := kT c39 hf
                      refine j_aload_n (pc := 999) X dL_isSo_999 rfl ?_
                      refine j_bipush (pc := 1000) X dL_isSo_1000 kbL_14 ?_
                      obtain ⟨r41, h40, hf⟩ := kB hf
                      refine a_cI (pc := 1002) X (fun _ h => P_l (P_l (P_l h))) (c_X8_count N p14.1 14 h40) gL_isSo_X8_count rfl ⟨rfl, rfl⟩ rfl hd_X8_count ⟨(Nat.le_of_ble_eq_true rfl), (Nat.le_of_ble_eq_true rfl)⟩ rfl (Nat.le_of_ble_eq_true rfl) rfl dL_isSo_1002 ?_
                      refine j_aload (pc := 1005) X dL_isSo_1005 rfl ?_
                      refine j_iconst (pc := 1007) X dL_isSo_1007 kcL_5 ?_
                      obtain ⟨b42, hf⟩ := gIn_s hf
                      refine a_iald (pc := 1008) X wcm_4 b42 dL_isSo_1008 ?_
                      refine j_icmp_ne (tgt := 1043) (pc := 1009) X dL_isSo_1009 rfl (fun c43 => ?_) (fun c43 => ?_)
                      · have hf := kF c43 hf
                        refine j_iconst (pc := 1043) X dL_isSo_1043 kcL_0 ?_
                        exact hj1044_18 _ hf
                      · have hf := kT c43 hf
                        refine j_aload_n (pc := 1012) X dL_isSo_1012 rfl ?_
                        refine j_aload_n (pc := 1013) X dL_isSo_1013 rfl ?_
                        refine j_iconst (pc := 1014) X dL_isSo_1014 kcL_5 ?_
                        obtain ⟨b44, hf⟩ := gIn_s hf
                        refine a_iald (pc := 1015) X wcm_0 b44 dL_isSo_1015 ?_
                        refine j_iconst (pc := 1016) X dL_isSo_1016 kcL_0 ?_
                        obtain ⟨r46, h45, hf⟩ := kB hf
                        refine a_cI (pc := 1017) X (fun _ h => P_l (P_l (P_l h))) (c_X8_word N p14.1 (p14.2 0 (5 : Int32).toNatClampNeg) 0 h45) gL_isSo_X8_word rfl ⟨rfl, rfl⟩ rfl hd_X8_word ⟨(Nat.le_of_ble_eq_true rfl), (Nat.le_of_ble_eq_true rfl)⟩ rfl (Nat.le_of_ble_eq_true rfl) rfl dL_isSo_1017 ?_
                        refine j_bipush (pc := 1020) X dL_isSo_1020 kbL_m11 ?_
                        refine j_icmp_ne (tgt := 1043) (pc := 1022) X dL_isSo_1022 rfl (fun c47 => ?_) (fun c47 => ?_)
                        · have hf := kF c47 hf
                          refine j_iconst (pc := 1043) X dL_isSo_1043 kcL_0 ?_
                          exact hj1044_18 _ hf
                        · have hf := kT c47 hf
                          refine j_aload_n (pc := 1025) X dL_isSo_1025 rfl ?_
                          refine j_iload (pc := 1026) X dL_isSo_1026 rfl ?_
                          refine j_iconst (pc := 1028) X dL_isSo_1028 kcL_1 ?_
                          refine j_iadd (pc := 1029) X dL_isSo_1029 ?_
                          refine j_iconst (pc := 1030) X dL_isSo_1030 kcL_0 ?_
                          obtain ⟨r49, h48, hf⟩ := kB hf
                          refine a_cI (pc := 1031) X (fun _ h => P_l (P_l (P_l h))) (c_X8_line N p14.1 (x10 + 1) 0 h48) gL_isSo_X8_line rfl ⟨rfl, rfl⟩ rfl hd_X8_line ⟨(Nat.le_of_ble_eq_true rfl), (Nat.le_of_ble_eq_true rfl)⟩ rfl (Nat.le_of_ble_eq_true rfl) rfl dL_isSo_1031 ?_
                          refine j_bipush (pc := 1034) X dL_isSo_1034 kbL_m11 ?_
                          refine j_icmp_ne (tgt := 1043) (pc := 1036) X dL_isSo_1036 rfl (fun c50 => ?_) (fun c50 => ?_)
                          · have hf := kF c50 hf
                            refine j_iconst (pc := 1043) X dL_isSo_1043 kcL_0 ?_
                            exact hj1044_18 _ hf
                          · have hf := kT c50 hf
                            refine j_iconst (pc := 1039) X dL_isSo_1039 kcL_1 ?_
                            refine j_goto (tgt := 1044) (pc := 1040) X dL_isSo_1040 rfl ?_
                            exact hj1044_18 _ hf
        obtain ⟨j928_50, ej928_50, hf⟩ := jn_s hf
        have hj928_50 : ∀ (_ : Unit), j928_50 = some r → JA (gC g 128 1526) (WCL2 cI cS cJ ad al q4 q5 p14) 17 928 [some (.ref (ad 0)), some (.ref (al 0)), some (.ref (al 1)), some (.ref (al 2)), some (.ref q4), some (.ref q5), some (.int x10), some (.int x11), some (.int x12), some (.int x13), none, none, none, none, none, none, none] [] := by
          intro _ hf
          have hf := jE0 ej928_50 hf
          refine j_iconst (pc := 928) X dL_isSo_928 kcL_0 ?_
          exact hj929_16 _ hf
        refine j_if_eq (tgt := 928) (pc := 877) X dL_isSo_877 rfl (fun c52 => ?_) (fun c52 => ?_)
        · have hf := kT c52 hf
          exact hj928_50 () hf
        · have hf := kF c52 hf
          refine j_iload (pc := 880) X dL_isSo_880 rfl ?_
          obtain ⟨j924_52, ej924_52, hf⟩ := jn_s hf
          have hj924_52 : ∀ (_ : Unit), j924_52 = some r → JA (gC g 128 1526) (WCL2 cI cS cJ ad al q4 q5 p14) 17 924 [some (.ref (ad 0)), some (.ref (al 0)), some (.ref (al 1)), some (.ref (al 2)), some (.ref q4), some (.ref q5), some (.int x10), some (.int x11), some (.int x12), some (.int x13), none, none, none, none, none, none, none] [] := by
            intro _ hf
            have hf := jE0 ej924_52 hf
            refine j_iconst (pc := 924) X dL_isSo_924 kcL_1 ?_
            refine j_goto (tgt := 929) (pc := 925) X dL_isSo_925 rfl ?_
            exact hj929_16 _ hf
          refine j_if_lt (tgt := 924) (pc := 882) X dL_isSo_882 rfl (fun c54 => ?_) (fun c54 => ?_)
          · have hf := kT c54 hf
            exact hj924_52 () hf
          · have hf := kF c54 hf
            refine j_aload_n (pc := 885) X dL_isSo_885 rfl ?_
            refine j_iload (pc := 886) X dL_isSo_886 rfl ?_
            refine j_iconst (pc := 888) X dL_isSo_888 kcL_1 ?_
            obtain ⟨r56, h55, hf⟩ := kB hf
            refine a_cI (pc := 889) X (fun _ h => P_l (P_l (P_l h))) (c_X8_line N p14.1 x10 1 h55) gL_isSo_X8_line rfl ⟨rfl, rfl⟩ rfl hd_X8_line ⟨(Nat.le_of_ble_eq_true rfl), (Nat.le_of_ble_eq_true rfl)⟩ rfl (Nat.le_of_ble_eq_true rfl) rfl dL_isSo_889 ?_
            refine j_aload_n (pc := 892) X dL_isSo_892 rfl ?_
            refine j_iconst (pc := 893) X dL_isSo_893 kcL_5 ?_
            obtain ⟨b57, hf⟩ := gIn_s hf
            refine a_iald (pc := 894) X wcm_0 b57 dL_isSo_894 ?_
            refine j_iload (pc := 895) X dL_isSo_895 rfl ?_
            refine j_isub (pc := 897) X dL_isSo_897 ?_
            refine j_icmp_ne (tgt := 928) (pc := 898) X dL_isSo_898 rfl (fun c58 => ?_) (fun c58 => ?_)
            · have hf := kF c58 hf
              exact hj928_50 () hf
            · have hf := kT c58 hf
              refine j_aload_n (pc := 901) X dL_isSo_901 rfl ?_
              refine j_iload (pc := 902) X dL_isSo_902 rfl ?_
              refine j_iconst (pc := 904) X dL_isSo_904 kcL_2 ?_
              obtain ⟨r60, h59, hf⟩ := kB hf
              refine a_cI (pc := 905) X (fun _ h => P_l (P_l (P_l h))) (c_X8_line N p14.1 x10 2 h59) gL_isSo_X8_line rfl ⟨rfl, rfl⟩ rfl hd_X8_line ⟨(Nat.le_of_ble_eq_true rfl), (Nat.le_of_ble_eq_true rfl)⟩ rfl (Nat.le_of_ble_eq_true rfl) rfl dL_isSo_905 ?_
              refine j_iload (pc := 908) X dL_isSo_908 rfl ?_
              refine j_icmp_ne (tgt := 928) (pc := 910) X dL_isSo_910 rfl (fun c61 => ?_) (fun c61 => ?_)
              · have hf := kF c61 hf
                exact hj928_50 () hf
              · have hf := kT c61 hf
                refine j_aload_n (pc := 913) X dL_isSo_913 rfl ?_
                refine j_iload (pc := 914) X dL_isSo_914 rfl ?_
                obtain ⟨r63, h62, hf⟩ := kB hf
                refine a_cI (pc := 916) X (fun _ h => P_l (P_l (P_l h))) (c_X8_widthAgain N p14.1 x10 h62) gL_isSo_X8_widthAgain rfl ⟨rfl, rfl⟩ rfl hd_X8_widthAgain ⟨(Nat.le_of_ble_eq_true rfl), (Nat.le_of_ble_eq_true rfl)⟩ rfl (Nat.le_of_ble_eq_true rfl) rfl dL_isSo_916 ?_
                refine j_iload (pc := 919) X dL_isSo_919 rfl ?_
                refine j_icmp_ne (tgt := 928) (pc := 921) X dL_isSo_921 rfl (fun c64 => ?_) (fun c64 => ?_)
                · have hf := kF c64 hf
                  exact hj928_50 () hf
                · have hf := kT c64 hf
                  exact hj924_52 () hf
      exact lt_L_isSo_128 X0 hE hA hI hq4 hq5 hD hR N  k875_14 hk875_14 9 _ _ _ _ _ _ ((0 + 1) + 1) ((0 + 6) + 8) (Nat.le_of_ble_eq_true rfl) (Nat.le_of_ble_eq_true rfl) hf
    exact lt_L_isSo_85 X X0 hE hA hI hq4 hq5 hD hR N p2 k125_8 hk125_8 N _ _ hf
  obtain ⟨j79_296, ej79_296, hf⟩ := jn_s hf
  have hj79_296 : ∀ (_ : Unit), j79_296 = some r → JA (gC g ((0 + 1) + 1) ((0 + 6) + 8)) (WCL2 cI cS cJ ad al q4 q5 p2) 17 79 [some (.ref (ad 0)), some (.ref (al 0)), some (.ref (al 1)), some (.ref (al 2)), some (.ref q4), some (.ref q5), some (.int (-1)), some (.int 0), some (.int 0), none, none, none, none, none, none, none, none] [] := by
    intro _ hf
    have hf := jE0 ej79_296 hf
    refine j_iconst (pc := 79) X dL_isSo_79 kcL_0 ?_
    exact hj80_6 _ hf
  refine j_icmp_ne (tgt := 79) (pc := 29) X dL_isSo_29 rfl (fun c298 => ?_) (fun c298 => ?_)
  · have hf := kF c298 hf
    exact hj79_296 () hf
  · have hf := kT c298 hf
    refine j_aload_n (pc := 32) X dL_isSo_32 rfl ?_
    refine j_iconst (pc := 33) X dL_isSo_33 kcL_3 ?_
    obtain ⟨r300, h299, hf⟩ := kB hf
    refine a_cI (pc := 34) X (fun _ h => P_l (P_l (P_l h))) (c_X8_count N p2.1 3 h299) gL_isSo_X8_count rfl ⟨rfl, rfl⟩ rfl hd_X8_count ⟨(Nat.le_of_ble_eq_true rfl), (Nat.le_of_ble_eq_true rfl)⟩ rfl (Nat.le_of_ble_eq_true rfl) rfl dL_isSo_34 ?_
    refine j_aload_n (pc := 37) X dL_isSo_37 rfl ?_
    refine j_bipush (pc := 38) X dL_isSo_38 kbL_6 ?_
    obtain ⟨b301, hf⟩ := gIn_s hf
    refine a_iald (pc := 40) X wcm_0 b301 dL_isSo_40 ?_
    refine j_icmp_ne (tgt := 79) (pc := 41) X dL_isSo_41 rfl (fun c302 => ?_) (fun c302 => ?_)
    · have hf := kF c302 hf
      exact hj79_296 () hf
    · have hf := kT c302 hf
      refine j_aload_n (pc := 44) X dL_isSo_44 rfl ?_
      refine j_iconst (pc := 45) X dL_isSo_45 kcL_4 ?_
      obtain ⟨r304, h303, hf⟩ := kB hf
      refine a_cI (pc := 46) X (fun _ h => P_l (P_l (P_l h))) (c_X8_count N p2.1 4 h303) gL_isSo_X8_count rfl ⟨rfl, rfl⟩ rfl hd_X8_count ⟨(Nat.le_of_ble_eq_true rfl), (Nat.le_of_ble_eq_true rfl)⟩ rfl (Nat.le_of_ble_eq_true rfl) rfl dL_isSo_46 ?_
      refine j_aload_n (pc := 49) X dL_isSo_49 rfl ?_
      refine j_bipush (pc := 50) X dL_isSo_50 kbL_7 ?_
      obtain ⟨b305, hf⟩ := gIn_s hf
      refine a_iald (pc := 52) X wcm_0 b305 dL_isSo_52 ?_
      refine j_icmp_ne (tgt := 79) (pc := 53) X dL_isSo_53 rfl (fun c306 => ?_) (fun c306 => ?_)
      · have hf := kF c306 hf
        exact hj79_296 () hf
      · have hf := kT c306 hf
        refine j_aload_n (pc := 56) X dL_isSo_56 rfl ?_
        refine j_iconst (pc := 57) X dL_isSo_57 kcL_5 ?_
        obtain ⟨r308, h307, hf⟩ := kB hf
        refine a_cI (pc := 58) X (fun _ h => P_l (P_l (P_l h))) (c_X8_count N p2.1 5 h307) gL_isSo_X8_count rfl ⟨rfl, rfl⟩ rfl hd_X8_count ⟨(Nat.le_of_ble_eq_true rfl), (Nat.le_of_ble_eq_true rfl)⟩ rfl (Nat.le_of_ble_eq_true rfl) rfl dL_isSo_58 ?_
        refine j_aload_n (pc := 61) X dL_isSo_61 rfl ?_
        refine j_bipush (pc := 62) X dL_isSo_62 kbL_6 ?_
        obtain ⟨b309, hf⟩ := gIn_s hf
        refine a_iald (pc := 64) X wcm_0 b309 dL_isSo_64 ?_
        refine j_aload_n (pc := 65) X dL_isSo_65 rfl ?_
        refine j_bipush (pc := 66) X dL_isSo_66 kbL_7 ?_
        obtain ⟨b310, hf⟩ := gIn_s hf
        refine a_iald (pc := 68) X wcm_0 b310 dL_isSo_68 ?_
        refine j_iconst (pc := 69) X dL_isSo_69 kcL_1 ?_
        refine j_iadd (pc := 70) X dL_isSo_70 ?_
        refine j_imul (pc := 71) X dL_isSo_71 ?_
        refine j_icmp_ne (tgt := 79) (pc := 72) X dL_isSo_72 rfl (fun c311 => ?_) (fun c311 => ?_)
        · have hf := kF c311 hf
          exact hj79_296 () hf
        · have hf := kT c311 hf
          refine j_iconst (pc := 75) X dL_isSo_75 kcL_1 ?_
          refine j_goto (tgt := 80) (pc := 76) X dL_isSo_76 rfl ?_
          exact hj80_6 _ hf
theorem c_L_isSo {l : Launch} {D : va_G} {cI cS cJ : ClassId} {ad al : Nat → Nat} (hI : lwD ad al) (N : Nat) (p : kS × kS) {r : Int32} (hf : f_L_isSo N p = some r) : mAL l yL_isSo wsL_isSo rm_L_isSo D cI cS (WCL cI cS cJ ad al p) (kE D cJ) [.ref (ad 0), .ref (al 0), .ref (al 1), .ref (al 2)] r 128 1526 :=
  mAL.of (by decide) rfl (Nat.le_of_ble_eq_true rfl) (fun g X hE e hA _ hR => by subst e; exact t_L_isSo X hE hA hI hR N p hf)
