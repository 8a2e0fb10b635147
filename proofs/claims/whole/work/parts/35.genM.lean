abbrev rm_X9_name : Room := { frames := 4, cells := 0, slots := 0, locals := 92 }
def f_X9_name (N : Nat) (C : kS) : Option (Int32 × kS) := (f_X9_makes N C 1 554 9 8).bind (fun p2 => some (p2.1, p2.2))
theorem hd_X9_name : kHd yX9_name 0 := by decide +kernel
set_option maxHeartbeats 4000000 in
set_option maxRecDepth 100000 in
theorem t_X9_name {g : kG} {cI cS : ClassId} {am : Nat → Nat} (X : Kx g cI cS cX9_name RX9 wsX9_name 1 rm_X9_name) {r : Int32} {Cr : kS} (hI : kInj 11 am) (Y : Kw g (WM cI am) (kAd 11 am)) (hR : kRI g (WM cI am) 1 cX9_name .int Cr r) (N : Nat) (C : kS)   (hf : f_X9_name N C = some (r, Cr)) : J g (WM cI am) 1 C 0 [some (.ref (am 0))] [] := by
  unfold f_X9_name at hf
  refine j_aload_n (pc := 0) X dX9_name_0 rfl ?_
  refine j_iconst (pc := 1) X dX9_name_1 kc_1 ?_
  refine j_sipush (pc := 2) X dX9_name_2 ks_554 ?_
  refine j_bipush (pc := 5) X dX9_name_5 kb_9 ?_
  refine j_bipush (pc := 7) X dX9_name_7 kb_8 ?_
  obtain ⟨p2, h1, hf⟩ := kB hf
  refine j_callW (pc := 9) X Y (c_X9_makes hI N C 1 554 9 8 h1) gX9_name_X9_makes rfl ⟨rfl, rfl⟩ rfl hd_X9_makes ⟨(Nat.le_of_ble_eq_true rfl), (Nat.le_of_ble_eq_true rfl)⟩ wm0 rfl rfl rfl (Nat.le_of_ble_eq_true rfl) rfl dX9_name_9 ?_
  exact j_retW hR dX9_name_12 hf
theorem c_X9_name {l : Launch} {D : va_G} {cI cS : ClassId} {am : Nat → Nat} (hI : kInj 11 am) (N : Nat) (C : kS)  {r : Int32} {Cr : kS} (hf : f_X9_name N C = some (r, Cr)) : mW l yX9_name wsX9_name rm_X9_name D cI cS (WM cI am) (kAd 11 am) C [.ref (am 0)] r Cr :=
  mW.of (by decide) rfl rfl (Nat.le_of_ble_eq_true rfl) (WM_D hI) (fun g X Y hR => t_X9_name X hI Y hR N C   hf)
abbrev rm_X9_page : Room := { frames := 4, cells := 0, slots := 0, locals := 88 }
theorem lk_X9_page_0 : Cond.fieldLink RX9 7 "BlackBarsModel" "s" "[I" ∈ wsX9_page := List.mem_of_getElem? (i := 1) rfl
theorem iw_X9_page_X9 : ∀ w ∈ wsX90, w ∈ wsX9_page := fun _ h => List.mem_cons_of_mem _ (List.mem_append_right _ h)
theorem lk_X9_page_1 : Cond.fieldLink RX9 48 "BlackBarsModel" "typed" "I" ∈ wsX9_page := List.mem_of_getElem? (i := 2) rfl
theorem lk_X9_page_2 : Cond.fieldLink RX9 16 "BlackBarsModel" "text" "[I" ∈ wsX9_page := List.mem_of_getElem? (i := 3) rfl
def lp_X9_page_27 (N : Nat) (k117_8 : kS → Option (Int32 × kS)) : Nat → Int32 → Int32 → kS → Option (Int32 × kS)
  | 0, _, _, _ => none
  | n + 1, x11, x12, C13 => if (C13 0 4) ≤ x12 then k117_8 C13 else gIn x12 200 (jn (fun (x16 : Int32) (C17 : kS) => lp_X9_page_27 N k117_8 n x16 (x12 + 1) C17) (fun j111_17 => if (C13 3 x12.toNatClampNeg) = 32 then j111_17 0 C13 else gIn 0 642 (jn (fun (t21 : Int32) => gIn 0 642 (jn (up1 C13 1 (upd (C13 1) ((0 : Int32).toNatClampNeg) ((C13 1 (0 : Int32).toNatClampNeg) + t21))) (fun C24 : kS => gIn 0 642 (jn (34 + (13 * ((C24 1 (0 : Int32).toNatClampNeg) - 1))) (fun x26 : Int32 => gIn x26 642 (jn (up1 C24 1 (upd (C24 1) (x26.toNatClampNeg) (x11 + 1))) (fun C28 : kS => gIn x12 200 (gIn (x26 + (x11 + 1)) 642 (jn (up1 C28 1 (upd (C28 1) ((x26 + (x11 + 1)).toNatClampNeg) ((C28 3 x12.toNatClampNeg) - 97))) (fun C31 : kS => j111_17 (x11 + 1) C31)))))))))) (fun j67_21 => if x11 = 0 then j67_21 1 else j67_21 0))))
def f_X9_page (N : Nat) (C : kS) : Option (Int32 × kS) := (f_X9_faultAt N C).bind (fun p2 => if p2.1 = (-14) then (f_X9_records N p2.2).bind (fun C5 => gIn 0 642 (jn (up1 C5 1 (upd (C5 1) ((0 : Int32).toNatClampNeg) 0)) (fun C7 : kS => jn (fun (C8 : kS) => gIn 0 642 (some (C8 1 (0 : Int32).toNatClampNeg, C8))) (fun k117_8 => lp_X9_page_27 N k117_8 N 0 0 C7)))) else some ((-12), p2.2))
theorem hd_X9_page : kHd yX9_page 0 := by decide +kernel
set_option maxHeartbeats 4000000 in
set_option maxRecDepth 100000 in
theorem lt_X9_page_27 {g : kG} {cI cS : ClassId} {am : Nat → Nat} (X : Kx g cI cS cX9_page RX9 wsX9_page 4 rm_X9_page) {r : Int32} {Cr : kS} (hI : kInj 11 am) (Y : Kw g (WM cI am) (kAd 11 am)) (hR : kRI g (WM cI am) 4 cX9_page .int Cr r) (N : Nat)   (k117_8 : kS → Option (Int32 × kS)) (hk117_8 : ∀ (C8 : kS), k117_8 C8 = some (r, Cr) → J g (WM cI am) 4 C8 117 [some (.ref (am 0)), none, none, none] []) : ∀ (n : Nat) (x11 : Int32) (x12 : Int32) (C13 : kS), lp_X9_page_27 N k117_8 n x11 x12 C13 = some (r, Cr) → J g (WM cI am) 4 C13 27 [some (.ref (am 0)), some (.int x11), some (.int x12), none] [] := by
  intro n
  induction n with
  | zero =>
    intro x11 x12 C13 hf
    rw [lp_X9_page_27] at hf
    cases hf
  | succ n ih =>
    intro x11 x12 C13 hf
    rw [lp_X9_page_27] at hf
    refine j_iload_n (pc := 27) X dX9_page_27 rfl ?_
    refine j_aload_n (pc := 28) X dX9_page_28 rfl ?_
    refine j_get (pc := 29) X iw_X9_page_X9 wm0 rfl 4 (Nat.le_of_ble_eq_true rfl) lk_X9_page_1 (v := .int (C13 0 4)) rfl dX9_page_29 ?_
    refine j_icmp_ge (tgt := 117) (pc := 32) X dX9_page_32 rfl (fun c14 => ?_) (fun c14 => ?_)
    · have hf := kT c14 hf
      refine j_weak (lv' := [some (.ref (am 0)), none, none, none]) (And.intro rfl trivial) ?_
      exact hk117_8 _ hf
    · have hf := kF c14 hf
      refine j_aload_n (pc := 35) X dX9_page_35 rfl ?_
      refine j_get (pc := 36) X iw_X9_page_X9 wm0 rfl 3 (Nat.le_of_ble_eq_true rfl) lk_X9_page_2 (v := .ref (am 3)) rfl dX9_page_36 ?_
      refine j_iload_n (pc := 39) X dX9_page_39 rfl ?_
      obtain ⟨b15, hf⟩ := gIn_s hf
      refine j_iald (pc := 40) X wm3 b15 dX9_page_40 ?_
      refine j_bipush (pc := 41) X dX9_page_41 kb_32 ?_
      obtain ⟨j111_17, ej111_17, hf⟩ := jn_s hf
      have hj111_17 : ∀ (x16 : Int32) (C17 : kS), j111_17 x16 C17 = some (r, Cr) → J g (WM cI am) 4 C17 111 [some (.ref (am 0)), some (.int x16), some (.int x12), none] [] := by
        intro x16 C17 hf
        have hf := jE2 ej111_17 hf
        refine j_iinc (pc := 111) X dX9_page_111 rfl (v := x12 + 1) (by rw [kc_1]) (Nat.le_of_ble_eq_true rfl) (lv' := [some (.ref (am 0)), some (.int x16), some (.int (x12 + 1)), none]) rfl ?_
        refine j_goto (tgt := 27) (pc := 114) X dX9_page_114 rfl ?_
        exact ih _ _ _ hf
      refine j_icmp_ne (tgt := 51) (pc := 43) X dX9_page_43 rfl (fun c19 => ?_) (fun c19 => ?_)
      · have hf := kF c19 hf
        refine j_aload_n (pc := 51) X dX9_page_51 rfl ?_
        refine j_get (pc := 52) X iw_X9_page_X9 wm0 rfl 0 (Nat.le_of_ble_eq_true rfl) lk_X9_page_0 (v := .ref (am 1)) rfl dX9_page_52 ?_
        refine j_iconst (pc := 55) X dX9_page_55 kc_0 ?_
        refine j_dup2 (pc := 56) X dX9_page_56 rfl rfl ?_
        obtain ⟨b20, hf⟩ := gIn_s hf
        refine j_iald (pc := 57) X wm1 b20 dX9_page_57 ?_
        refine j_iload_n (pc := 58) X dX9_page_58 rfl ?_
        obtain ⟨j67_21, ej67_21, hf⟩ := jn_s hf
        have hj67_21 : ∀ (t21 : Int32), j67_21 t21 = some (r, Cr) → J g (WM cI am) 4 C13 67 [some (.ref (am 0)), some (.int x11), some (.int x12), none] [.int t21, .int (C13 1 (0 : Int32).toNatClampNeg), .int 0, .ref (am 1)] := by
          intro t21 hf
          have hf := jE1 ej67_21 hf
          refine j_iadd (pc := 67) X dX9_page_67 ?_
          obtain ⟨b23, hf⟩ := gIn_s hf
          obtain ⟨C24, eC24, hf⟩ := jn_s hf
          refine j_iast (C' := C24) (pc := 68) X Y wm1 b23 dX9_page_68 (by rw [eC24]; exact sm1 _) ?_
          refine j_iinc (pc := 69) X dX9_page_69 rfl (v := x11 + 1) (by rw [kc_1]) (Nat.le_of_ble_eq_true rfl) (lv' := [some (.ref (am 0)), some (.int (x11 + 1)), some (.int x12), none]) rfl ?_
          refine j_bipush (pc := 72) X dX9_page_72 kb_34 ?_
          refine j_bipush (pc := 74) X dX9_page_74 kb_13 ?_
          refine j_aload_n (pc := 76) X dX9_page_76 rfl ?_
          refine j_get (pc := 77) X iw_X9_page_X9 wm0 rfl 0 (Nat.le_of_ble_eq_true rfl) lk_X9_page_0 (v := .ref (am 1)) rfl dX9_page_77 ?_
          refine j_iconst (pc := 80) X dX9_page_80 kc_0 ?_
          obtain ⟨b25, hf⟩ := gIn_s hf
          refine j_iald (pc := 81) X wm1 b25 dX9_page_81 ?_
          refine j_iconst (pc := 82) X dX9_page_82 kc_1 ?_
          refine j_isub (pc := 83) X dX9_page_83 ?_
          refine j_imul (pc := 84) X dX9_page_84 ?_
          refine j_iadd (pc := 85) X dX9_page_85 ?_
          obtain ⟨x26, ex26, hf⟩ := jn_s hf
          refine j_istore_n (pc := 86) X dX9_page_86 (Nat.le_of_ble_eq_true rfl) (lv' := [some (.ref (am 0)), some (.int (x11 + 1)), some (.int x12), some (.int x26)]) (by rw [ex26]; rfl) ?_
          refine j_aload_n (pc := 87) X dX9_page_87 rfl ?_
          refine j_get (pc := 88) X iw_X9_page_X9 wm0 rfl 0 (Nat.le_of_ble_eq_true rfl) lk_X9_page_0 (v := .ref (am 1)) rfl dX9_page_88 ?_
          refine j_iload_n (pc := 91) X dX9_page_91 rfl ?_
          refine j_iload_n (pc := 92) X dX9_page_92 rfl ?_
          obtain ⟨b27, hf⟩ := gIn_s hf
          obtain ⟨C28, eC28, hf⟩ := jn_s hf
          refine j_iast (C' := C28) (pc := 93) X Y wm1 b27 dX9_page_93 (by rw [eC28]; exact sm1 _) ?_
          refine j_aload_n (pc := 94) X dX9_page_94 rfl ?_
          refine j_get (pc := 95) X iw_X9_page_X9 wm0 rfl 0 (Nat.le_of_ble_eq_true rfl) lk_X9_page_0 (v := .ref (am 1)) rfl dX9_page_95 ?_
          refine j_iload_n (pc := 98) X dX9_page_98 rfl ?_
          refine j_iload_n (pc := 99) X dX9_page_99 rfl ?_
          refine j_iadd (pc := 100) X dX9_page_100 ?_
          refine j_aload_n (pc := 101) X dX9_page_101 rfl ?_
          refine j_get (pc := 102) X iw_X9_page_X9 wm0 rfl 3 (Nat.le_of_ble_eq_true rfl) lk_X9_page_2 (v := .ref (am 3)) rfl dX9_page_102 ?_
          refine j_iload_n (pc := 105) X dX9_page_105 rfl ?_
          obtain ⟨b29, hf⟩ := gIn_s hf
          refine j_iald (pc := 106) X wm3 b29 dX9_page_106 ?_
          refine j_bipush (pc := 107) X dX9_page_107 kb_97 ?_
          refine j_isub (pc := 109) X dX9_page_109 ?_
          obtain ⟨b30, hf⟩ := gIn_s hf
          obtain ⟨C31, eC31, hf⟩ := jn_s hf
          refine j_iast (C' := C31) (pc := 110) X Y wm1 b30 dX9_page_110 (by rw [eC31]; exact sm1 _) ?_
          refine j_weak (lv' := [some (.ref (am 0)), some (.int (x11 + 1)), some (.int x12), none]) (And.intro rfl (And.intro rfl (And.intro rfl trivial))) ?_
          exact hj111_17 _ _ hf
        refine j_if_ne (tgt := 66) (pc := 59) X dX9_page_59 rfl (fun c32 => ?_) (fun c32 => ?_)
        · have hf := kF c32 hf
          refine j_iconst (pc := 66) X dX9_page_66 kc_0 ?_
          exact hj67_21 _ hf
        · have hf := kT c32 hf
          refine j_iconst (pc := 62) X dX9_page_62 kc_1 ?_
          refine j_goto (tgt := 67) (pc := 63) X dX9_page_63 rfl ?_
          exact hj67_21 _ hf
      · have hf := kT c19 hf
        refine j_iconst (pc := 46) X dX9_page_46 kc_0 ?_
        refine j_istore_n (pc := 47) X dX9_page_47 (Nat.le_of_ble_eq_true rfl) (lv' := [some (.ref (am 0)), some (.int 0), some (.int x12), none]) rfl ?_
        refine j_goto (tgt := 111) (pc := 48) X dX9_page_48 rfl ?_
        exact hj111_17 _ _ hf
set_option maxHeartbeats 4000000 in
set_option maxRecDepth 100000 in
theorem t_X9_page {g : kG} {cI cS : ClassId} {am : Nat → Nat} (X : Kx g cI cS cX9_page RX9 wsX9_page 4 rm_X9_page) {r : Int32} {Cr : kS} (hI : kInj 11 am) (Y : Kw g (WM cI am) (kAd 11 am)) (hR : kRI g (WM cI am) 4 cX9_page .int Cr r) (N : Nat) (C : kS)   (hf : f_X9_page N C = some (r, Cr)) : J g (WM cI am) 4 C 0 [some (.ref (am 0)), none, none, none] [] := by
  unfold f_X9_page at hf
  refine j_aload_n (pc := 0) X dX9_page_0 rfl ?_
  obtain ⟨p2, h1, hf⟩ := kB hf
  refine j_callW (pc := 1) X Y (c_X9_faultAt hI N C  h1) gX9_page_X9_faultAt rfl ⟨rfl, rfl⟩ rfl hd_X9_faultAt ⟨(Nat.le_of_ble_eq_true rfl), (Nat.le_of_ble_eq_true rfl)⟩ wm0 rfl rfl rfl (Nat.le_of_ble_eq_true rfl) rfl dX9_page_1 ?_
  refine j_bipush (pc := 4) X dX9_page_4 kb_m14 ?_
  refine j_icmp_eq (tgt := 12) (pc := 6) X dX9_page_6 rfl (fun c3 => ?_) (fun c3 => ?_)
  · have hf := kT c3 hf
    refine j_aload_n (pc := 12) X dX9_page_12 rfl ?_
    obtain ⟨C5, h4, hf⟩ := kB hf
    refine j_callV (pc := 13) X Y (c_X9_records hI N p2.2  h4) gX9_page_X9_records rfl ⟨rfl, rfl⟩ rfl hd_X9_records ⟨(Nat.le_of_ble_eq_true rfl), (Nat.le_of_ble_eq_true rfl)⟩ wm0 rfl rfl rfl (Nat.le_of_ble_eq_true rfl) rfl dX9_page_13 ?_
    refine j_aload_n (pc := 16) X dX9_page_16 rfl ?_
    refine j_get (pc := 17) X iw_X9_page_X9 wm0 rfl 0 (Nat.le_of_ble_eq_true rfl) lk_X9_page_0 (v := .ref (am 1)) rfl dX9_page_17 ?_
    refine j_iconst (pc := 20) X dX9_page_20 kc_0 ?_
    refine j_iconst (pc := 21) X dX9_page_21 kc_0 ?_
    obtain ⟨b6, hf⟩ := gIn_s hf
    obtain ⟨C7, eC7, hf⟩ := jn_s hf
    refine j_iast (C' := C7) (pc := 22) X Y wm1 b6 dX9_page_22 (by rw [eC7]; exact sm1 _) ?_
    refine j_iconst (pc := 23) X dX9_page_23 kc_0 ?_
    refine j_istore_n (pc := 24) X dX9_page_24 (Nat.le_of_ble_eq_true rfl) (lv' := [some (.ref (am 0)), some (.int 0), none, none]) rfl ?_
    refine j_iconst (pc := 25) X dX9_page_25 kc_0 ?_
    refine j_istore_n (pc := 26) X dX9_page_26 (Nat.le_of_ble_eq_true rfl) (lv' := [some (.ref (am 0)), some (.int 0), some (.int 0), none]) rfl ?_
    obtain ⟨k117_8, ek117_8, hf⟩ := jn_s hf
    have hk117_8 : ∀ (C8 : kS), k117_8 C8 = some (r, Cr) → J g (WM cI am) 4 C8 117 [some (.ref (am 0)), none, none, none] [] := by
      intro C8 hf
      have hf := jE1 ek117_8 hf
      refine j_aload_n (pc := 117) X dX9_page_117 rfl ?_
      refine j_get (pc := 118) X iw_X9_page_X9 wm0 rfl 0 (Nat.le_of_ble_eq_true rfl) lk_X9_page_0 (v := .ref (am 1)) rfl dX9_page_118 ?_
      refine j_iconst (pc := 121) X dX9_page_121 kc_0 ?_
      obtain ⟨b10, hf⟩ := gIn_s hf
      refine j_iald (pc := 122) X wm1 b10 dX9_page_122 ?_
      exact j_retW hR dX9_page_123 hf
    exact lt_X9_page_27 X hI Y hR N   k117_8 hk117_8 N _ _ _ hf
  · have hf := kF c3 hf
    refine j_bipush (pc := 9) X dX9_page_9 kb_m12 ?_
    exact j_retW hR dX9_page_11 hf
theorem c_X9_page {l : Launch} {D : va_G} {cI cS : ClassId} {am : Nat → Nat} (hI : kInj 11 am) (N : Nat) (C : kS)  {r : Int32} {Cr : kS} (hf : f_X9_page N C = some (r, Cr)) : mW l yX9_page wsX9_page rm_X9_page D cI cS (WM cI am) (kAd 11 am) C [.ref (am 0)] r Cr :=
  mW.of (by decide) rfl rfl (Nat.le_of_ble_eq_true rfl) (WM_D hI) (fun g X Y hR => t_X9_page X hI Y hR N C   hf)
abbrev rm_X9_same : Room := { frames := 6, cells := 0, slots := 0, locals := 134 }
theorem lk_X9_same_0 : Cond.fieldLink RX9 7 "BlackBarsModel" "s" "[I" ∈ wsX9_same := List.mem_of_getElem? (i := 1) rfl
theorem iw_X9_same_X9 : ∀ w ∈ wsX90, w ∈ wsX9_same := fun _ h => List.mem_cons_of_mem _ (List.mem_append_right _ h)
theorem lk_X9_same_1 : Cond.fieldLink RX9 28 "BlackBarsModel" "formOf" "[I" ∈ wsX9_same := List.mem_of_getElem? (i := 2) rfl
theorem lk_X9_same_2 : Cond.fieldLink RX9 22 "BlackBarsModel" "barWidth" "[I" ∈ wsX9_same := List.mem_of_getElem? (i := 3) rfl
theorem lk_X9_same_3 : Cond.fieldLink RX9 31 "BlackBarsModel" "shown" "[I" ∈ wsX9_same := List.mem_of_getElem? (i := 4) rfl
def lp_X9_same_28 (N : Nat) (a1 : Int32) (a2 : Int32) (C8 : kS) (k143_9 : Int32 → Option (Int32 × kS)) : Nat → Int32 → Int32 → Option (Int32 × kS)
  | 0, _, _ => none
  | n + 1, x14, x15 => gIn 0 642 (if (C8 1 (0 : Int32).toNatClampNeg) ≤ x15 then k143_9 x14 else gIn x15 40 (jn (fun (t19 : Int32) => jn (fun (x21 : Int32) => lp_X9_same_28 N a1 a2 C8 k143_9 n x21 (x15 + 1)) (fun j137_21 => jn (jn (fun (t24 : Int32) => jn (fun (t26 : Int32) => j137_21 t26) (fun j136_26 => jn (j136_26 0) (fun j135_27 => if x14 = 0 then j135_27 else (f_X9_each N C8).bind (fun r31 => gIn x15 40 ((f_X9_each N C8).bind (fun r34 => gNz r34 (gIn ((t24 * r31) + ((C8 7 x15.toNatClampNeg) - (C8 7 x15.toNatClampNeg) / r34 * r34)) 40 (gIn x15 40 (if (C8 5 ((t24 * r31) + ((C8 7 x15.toNatClampNeg) - (C8 7 x15.toNatClampNeg) / r34 * r34)).toNatClampNeg) = (C8 8 x15.toNatClampNeg) then j136_26 1 else j135_27))))))))) (fun j90_24 => if t19 = a1 then j90_24 a2 else j90_24 a1)) (fun j79_22 => if t19 = a1 then j79_22 else if t19 = a2 then j79_22 else j137_21 x14))) (fun j65_19 => if 0 ≤ (C8 7 x15.toNatClampNeg) then gIn x15 40 ((f_X9_each N C8).bind (fun r45 => gNz r45 (j65_19 ((C8 7 x15.toNatClampNeg) / r45)))) else j65_19 (-1))))
def f_X9_same (N : Nat) (C : kS) (a1 : Int32) (a2 : Int32) : Option (Int32 × kS) := (f_X9_isName N C a1).bind (fun r2 => if r2 = 0 then some ((-11), C) else (f_X9_isName N C a2).bind (fun r5 => if r5 = 0 then some ((-11), C) else (f_X9_laysNow N C).bind (fun C8 => jn (fun (x9 : Int32) => jn (fun (t11 : Int32) => some (t11, C8)) (fun j152_11 => if x9 = 0 then j152_11 0 else j152_11 1)) (fun k143_9 => lp_X9_same_28 N a1 a2 C8 k143_9 N 1 0))))
theorem hd_X9_same : kHd yX9_same 2 := by decide +kernel
set_option maxHeartbeats 4000000 in
set_option maxRecDepth 100000 in
theorem lt_X9_same_28 {g : kG} {cI cS : ClassId} {am : Nat → Nat} (X : Kx g cI cS cX9_same RX9 wsX9_same 7 rm_X9_same) {r : Int32} {Cr : kS} (hI : kInj 11 am) (Y : Kw g (WM cI am) (kAd 11 am)) (hR : kRI g (WM cI am) 7 cX9_same .int Cr r) (N : Nat) (a1 : Int32) (a2 : Int32) (C8 : kS)  (k143_9 : Int32 → Option (Int32 × kS)) (hk143_9 : ∀ (x9 : Int32), k143_9 x9 = some (r, Cr) → J g (WM cI am) 7 C8 143 [some (.ref (am 0)), some (.int a1), some (.int a2), some (.int x9), none, none, none] []) : ∀ (n : Nat) (x14 : Int32) (x15 : Int32), lp_X9_same_28 N a1 a2 C8 k143_9 n x14 x15 = some (r, Cr) → J g (WM cI am) 7 C8 28 [some (.ref (am 0)), some (.int a1), some (.int a2), some (.int x14), some (.int x15), none, none] [] := by
  intro n
  induction n with
  | zero =>
    intro x14 x15 hf
    rw [lp_X9_same_28] at hf
    cases hf
  | succ n ih =>
    intro x14 x15 hf
    rw [lp_X9_same_28] at hf
    refine j_iload (pc := 28) X dX9_same_28 rfl ?_
    refine j_aload_n (pc := 30) X dX9_same_30 rfl ?_
    refine j_get (pc := 31) X iw_X9_same_X9 wm0 rfl 0 (Nat.le_of_ble_eq_true rfl) lk_X9_same_0 (v := .ref (am 1)) rfl dX9_same_31 ?_
    refine j_iconst (pc := 34) X dX9_same_34 kc_0 ?_
    obtain ⟨b16, hf⟩ := gIn_s hf
    refine j_iald (pc := 35) X wm1 b16 dX9_same_35 ?_
    refine j_icmp_ge (tgt := 143) (pc := 36) X dX9_same_36 rfl (fun c17 => ?_) (fun c17 => ?_)
    · have hf := kT c17 hf
      refine j_weak (lv' := [some (.ref (am 0)), some (.int a1), some (.int a2), some (.int x14), none, none, none]) (And.intro rfl (And.intro rfl (And.intro rfl (And.intro rfl trivial)))) ?_
      exact hk143_9 _ hf
    · have hf := kF c17 hf
      refine j_aload_n (pc := 39) X dX9_same_39 rfl ?_
      refine j_get (pc := 40) X iw_X9_same_X9 wm0 rfl 10 (Nat.le_of_ble_eq_true rfl) lk_X9_same_1 (v := .ref (am 7)) rfl dX9_same_40 ?_
      refine j_iload (pc := 43) X dX9_same_43 rfl ?_
      obtain ⟨b18, hf⟩ := gIn_s hf
      refine j_iald (pc := 45) X wm7 b18 dX9_same_45 ?_
      obtain ⟨j65_19, ej65_19, hf⟩ := jn_s hf
      have hj65_19 : ∀ (t19 : Int32), j65_19 t19 = some (r, Cr) → J g (WM cI am) 7 C8 65 [some (.ref (am 0)), some (.int a1), some (.int a2), some (.int x14), some (.int x15), none, none] [.int t19] := by
        intro t19 hf
        have hf := jE1 ej65_19 hf
        refine j_istore (pc := 65) X dX9_same_65 (Nat.le_of_ble_eq_true rfl) (lv' := [some (.ref (am 0)), some (.int a1), some (.int a2), some (.int x14), some (.int x15), some (.int t19), none]) rfl ?_
        refine j_iload (pc := 67) X dX9_same_67 rfl ?_
        refine j_iload_n (pc := 69) X dX9_same_69 rfl ?_
        obtain ⟨j137_21, ej137_21, hf⟩ := jn_s hf
        have hj137_21 : ∀ (x21 : Int32), j137_21 x21 = some (r, Cr) → J g (WM cI am) 7 C8 137 [some (.ref (am 0)), some (.int a1), some (.int a2), some (.int x21), some (.int x15), some (.int t19), none] [] := by
          intro x21 hf
          have hf := jE1 ej137_21 hf
          refine j_iinc (pc := 137) X dX9_same_137 rfl (v := x15 + 1) (by rw [kc_1]) (Nat.le_of_ble_eq_true rfl) (lv' := [some (.ref (am 0)), some (.int a1), some (.int a2), some (.int x21), some (.int (x15 + 1)), some (.int t19), none]) rfl ?_
          refine j_goto (tgt := 28) (pc := 140) X dX9_same_140 rfl ?_
          refine j_weak (lv' := [some (.ref (am 0)), some (.int a1), some (.int a2), some (.int x21), some (.int (x15 + 1)), none, none]) (And.intro rfl (And.intro rfl (And.intro rfl (And.intro rfl (And.intro rfl trivial))))) ?_
          exact ih _ _ hf
        obtain ⟨j79_22, ej79_22, hf⟩ := jn_s hf
        have hj79_22 : ∀ (_ : Unit), j79_22 = some (r, Cr) → J g (WM cI am) 7 C8 79 [some (.ref (am 0)), some (.int a1), some (.int a2), some (.int x14), some (.int x15), some (.int t19), none] [] := by
          intro _ hf
          have hf := jE0 ej79_22 hf
          refine j_iload (pc := 79) X dX9_same_79 rfl ?_
          refine j_iload_n (pc := 81) X dX9_same_81 rfl ?_
          obtain ⟨j90_24, ej90_24, hf⟩ := jn_s hf
          have hj90_24 : ∀ (t24 : Int32), j90_24 t24 = some (r, Cr) → J g (WM cI am) 7 C8 90 [some (.ref (am 0)), some (.int a1), some (.int a2), some (.int x14), some (.int x15), some (.int t19), none] [.int t24] := by
            intro t24 hf
            have hf := jE1 ej90_24 hf
            refine j_istore (pc := 90) X dX9_same_90 (Nat.le_of_ble_eq_true rfl) (lv' := [some (.ref (am 0)), some (.int a1), some (.int a2), some (.int x14), some (.int x15), some (.int t19), some (.int t24)]) rfl ?_
            refine j_iload_n (pc := 92) X dX9_same_92 rfl ?_
            obtain ⟨j136_26, ej136_26, hf⟩ := jn_s hf
            have hj136_26 : ∀ (t26 : Int32), j136_26 t26 = some (r, Cr) → J g (WM cI am) 7 C8 136 [some (.ref (am 0)), some (.int a1), some (.int a2), some (.int x14), some (.int x15), some (.int t19), some (.int t24)] [.int t26] := by
              intro t26 hf
              have hf := jE1 ej136_26 hf
              refine j_istore_n (pc := 136) X dX9_same_136 (Nat.le_of_ble_eq_true rfl) (lv' := [some (.ref (am 0)), some (.int a1), some (.int a2), some (.int t26), some (.int x15), some (.int t19), some (.int t24)]) rfl ?_
              refine j_weak (lv' := [some (.ref (am 0)), some (.int a1), some (.int a2), some (.int t26), some (.int x15), some (.int t19), none]) (And.intro rfl (And.intro rfl (And.intro rfl (And.intro rfl (And.intro rfl (And.intro rfl trivial)))))) ?_
              exact hj137_21 _ hf
            obtain ⟨j135_27, ej135_27, hf⟩ := jn_s hf
            have hj135_27 : ∀ (_ : Unit), j135_27 = some (r, Cr) → J g (WM cI am) 7 C8 135 [some (.ref (am 0)), some (.int a1), some (.int a2), some (.int x14), some (.int x15), some (.int t19), some (.int t24)] [] := by
              intro _ hf
              have hf := jE0 ej135_27 hf
              refine j_iconst (pc := 135) X dX9_same_135 kc_0 ?_
              exact hj136_26 _ hf
            refine j_if_eq (tgt := 135) (pc := 93) X dX9_same_93 rfl (fun c29 => ?_) (fun c29 => ?_)
            · have hf := kT c29 hf
              exact hj135_27 () hf
            · have hf := kF c29 hf
              refine j_aload_n (pc := 96) X dX9_same_96 rfl ?_
              refine j_get (pc := 97) X iw_X9_same_X9 wm0 rfl 7 (Nat.le_of_ble_eq_true rfl) lk_X9_same_2 (v := .ref (am 5)) rfl dX9_same_97 ?_
              refine j_iload (pc := 100) X dX9_same_100 rfl ?_
              refine j_aload_n (pc := 102) X dX9_same_102 rfl ?_
              obtain ⟨r31, h30, hf⟩ := kB hf
              refine j_callI (pc := 103) X (c_X9_each N C8  h30) gX9_same_X9_each rfl ⟨rfl, rfl⟩ rfl hd_X9_each ⟨(Nat.le_of_ble_eq_true rfl), (Nat.le_of_ble_eq_true rfl)⟩ wm0 rfl rfl rfl (Nat.le_of_ble_eq_true rfl) rfl dX9_same_103 ?_
              refine j_imul (pc := 106) X dX9_same_106 ?_
              refine j_aload_n (pc := 107) X dX9_same_107 rfl ?_
              refine j_get (pc := 108) X iw_X9_same_X9 wm0 rfl 10 (Nat.le_of_ble_eq_true rfl) lk_X9_same_1 (v := .ref (am 7)) rfl dX9_same_108 ?_
              refine j_iload (pc := 111) X dX9_same_111 rfl ?_
              obtain ⟨b32, hf⟩ := gIn_s hf
              refine j_iald (pc := 113) X wm7 b32 dX9_same_113 ?_
              refine j_aload_n (pc := 114) X dX9_same_114 rfl ?_
              obtain ⟨r34, h33, hf⟩ := kB hf
              refine j_callI (pc := 115) X (c_X9_each N C8  h33) gX9_same_X9_each rfl ⟨rfl, rfl⟩ rfl hd_X9_each ⟨(Nat.le_of_ble_eq_true rfl), (Nat.le_of_ble_eq_true rfl)⟩ wm0 rfl rfl rfl (Nat.le_of_ble_eq_true rfl) rfl dX9_same_115 ?_
              obtain ⟨z35, hf⟩ := gNz_s hf
              refine j_irem (pc := 118) X dX9_same_118 z35 ?_
              refine j_iadd (pc := 119) X dX9_same_119 ?_
              obtain ⟨b36, hf⟩ := gIn_s hf
              refine j_iald (pc := 120) X wm5 b36 dX9_same_120 ?_
              refine j_aload_n (pc := 121) X dX9_same_121 rfl ?_
              refine j_get (pc := 122) X iw_X9_same_X9 wm0 rfl 11 (Nat.le_of_ble_eq_true rfl) lk_X9_same_3 (v := .ref (am 8)) rfl dX9_same_122 ?_
              refine j_iload (pc := 125) X dX9_same_125 rfl ?_
              obtain ⟨b37, hf⟩ := gIn_s hf
              refine j_iald (pc := 127) X wm8 b37 dX9_same_127 ?_
              refine j_icmp_ne (tgt := 135) (pc := 128) X dX9_same_128 rfl (fun c38 => ?_) (fun c38 => ?_)
              · have hf := kF c38 hf
                exact hj135_27 () hf
              · have hf := kT c38 hf
                refine j_iconst (pc := 131) X dX9_same_131 kc_1 ?_
                refine j_goto (tgt := 136) (pc := 132) X dX9_same_132 rfl ?_
                exact hj136_26 _ hf
          refine j_icmp_ne (tgt := 89) (pc := 82) X dX9_same_82 rfl (fun c39 => ?_) (fun c39 => ?_)
          · have hf := kF c39 hf
            refine j_iload_n (pc := 89) X dX9_same_89 rfl ?_
            exact hj90_24 _ hf
          · have hf := kT c39 hf
            refine j_iload_n (pc := 85) X dX9_same_85 rfl ?_
            refine j_goto (tgt := 90) (pc := 86) X dX9_same_86 rfl ?_
            exact hj90_24 _ hf
        refine j_icmp_eq (tgt := 79) (pc := 70) X dX9_same_70 rfl (fun c40 => ?_) (fun c40 => ?_)
        · have hf := kT c40 hf
          exact hj79_22 () hf
        · have hf := kF c40 hf
          refine j_iload (pc := 73) X dX9_same_73 rfl ?_
          refine j_iload_n (pc := 75) X dX9_same_75 rfl ?_
          refine j_icmp_ne (tgt := 137) (pc := 76) X dX9_same_76 rfl (fun c41 => ?_) (fun c41 => ?_)
          · have hf := kF c41 hf
            exact hj137_21 _ hf
          · have hf := kT c41 hf
            exact hj79_22 () hf
      refine j_if_ge (tgt := 53) (pc := 46) X dX9_same_46 rfl (fun c42 => ?_) (fun c42 => ?_)
      · have hf := kT c42 hf
        refine j_aload_n (pc := 53) X dX9_same_53 rfl ?_
        refine j_get (pc := 54) X iw_X9_same_X9 wm0 rfl 10 (Nat.le_of_ble_eq_true rfl) lk_X9_same_1 (v := .ref (am 7)) rfl dX9_same_54 ?_
        refine j_iload (pc := 57) X dX9_same_57 rfl ?_
        obtain ⟨b43, hf⟩ := gIn_s hf
        refine j_iald (pc := 59) X wm7 b43 dX9_same_59 ?_
        refine j_aload_n (pc := 60) X dX9_same_60 rfl ?_
        obtain ⟨r45, h44, hf⟩ := kB hf
        refine j_callI (pc := 61) X (c_X9_each N C8  h44) gX9_same_X9_each rfl ⟨rfl, rfl⟩ rfl hd_X9_each ⟨(Nat.le_of_ble_eq_true rfl), (Nat.le_of_ble_eq_true rfl)⟩ wm0 rfl rfl rfl (Nat.le_of_ble_eq_true rfl) rfl dX9_same_61 ?_
        obtain ⟨z46, hf⟩ := gNz_s hf
        refine j_idiv (pc := 64) X dX9_same_64 z46 ?_
        exact hj65_19 _ hf
      · have hf := kF c42 hf
        refine j_iconst (pc := 49) X dX9_same_49 kc_m1 ?_
        refine j_goto (tgt := 65) (pc := 50) X dX9_same_50 rfl ?_
        exact hj65_19 _ hf
set_option maxHeartbeats 4000000 in
set_option maxRecDepth 100000 in
theorem t_X9_same {g : kG} {cI cS : ClassId} {am : Nat → Nat} (X : Kx g cI cS cX9_same RX9 wsX9_same 7 rm_X9_same) {r : Int32} {Cr : kS} (hI : kInj 11 am) (Y : Kw g (WM cI am) (kAd 11 am)) (hR : kRI g (WM cI am) 7 cX9_same .int Cr r) (N : Nat) (C : kS) (a1 : Int32) (a2 : Int32)  (hf : f_X9_same N C a1 a2 = some (r, Cr)) : J g (WM cI am) 7 C 0 [some (.ref (am 0)), some (.int a1), some (.int a2), none, none, none, none] [] := by
  unfold f_X9_same at hf
  refine j_aload_n (pc := 0) X dX9_same_0 rfl ?_
  refine j_iload_n (pc := 1) X dX9_same_1 rfl ?_
  obtain ⟨r2, h1, hf⟩ := kB hf
  refine j_callI (pc := 2) X (c_X9_isName N C a1 h1) gX9_same_X9_isName rfl ⟨rfl, rfl⟩ rfl hd_X9_isName ⟨(Nat.le_of_ble_eq_true rfl), (Nat.le_of_ble_eq_true rfl)⟩ wm0 rfl rfl rfl (Nat.le_of_ble_eq_true rfl) rfl dX9_same_2 ?_
  refine j_if_eq (tgt := 16) (pc := 5) X dX9_same_5 rfl (fun c3 => ?_) (fun c3 => ?_)
  · have hf := kT c3 hf
    refine j_bipush (pc := 16) X dX9_same_16 kb_m11 ?_
    exact j_retW hR dX9_same_18 hf
  · have hf := kF c3 hf
    refine j_aload_n (pc := 8) X dX9_same_8 rfl ?_
    refine j_iload_n (pc := 9) X dX9_same_9 rfl ?_
    obtain ⟨r5, h4, hf⟩ := kB hf
    refine j_callI (pc := 10) X (c_X9_isName N C a2 h4) gX9_same_X9_isName rfl ⟨rfl, rfl⟩ rfl hd_X9_isName ⟨(Nat.le_of_ble_eq_true rfl), (Nat.le_of_ble_eq_true rfl)⟩ wm0 rfl rfl rfl (Nat.le_of_ble_eq_true rfl) rfl dX9_same_10 ?_
    refine j_if_ne (tgt := 19) (pc := 13) X dX9_same_13 rfl (fun c6 => ?_) (fun c6 => ?_)
    · have hf := kF c6 hf
      refine j_aload_n (pc := 19) X dX9_same_19 rfl ?_
      obtain ⟨C8, h7, hf⟩ := kB hf
      refine j_callV (pc := 20) X Y (c_X9_laysNow hI N C  h7) gX9_same_X9_laysNow rfl ⟨rfl, rfl⟩ rfl hd_X9_laysNow ⟨(Nat.le_of_ble_eq_true rfl), (Nat.le_of_ble_eq_true rfl)⟩ wm0 rfl rfl rfl (Nat.le_of_ble_eq_true rfl) rfl dX9_same_20 ?_
      refine j_iconst (pc := 23) X dX9_same_23 kc_1 ?_
      refine j_istore_n (pc := 24) X dX9_same_24 (Nat.le_of_ble_eq_true rfl) (lv' := [some (.ref (am 0)), some (.int a1), some (.int a2), some (.int 1), none, none, none]) rfl ?_
      refine j_iconst (pc := 25) X dX9_same_25 kc_0 ?_
      refine j_istore (pc := 26) X dX9_same_26 (Nat.le_of_ble_eq_true rfl) (lv' := [some (.ref (am 0)), some (.int a1), some (.int a2), some (.int 1), some (.int 0), none, none]) rfl ?_
      obtain ⟨k143_9, ek143_9, hf⟩ := jn_s hf
      have hk143_9 : ∀ (x9 : Int32), k143_9 x9 = some (r, Cr) → J g (WM cI am) 7 C8 143 [some (.ref (am 0)), some (.int a1), some (.int a2), some (.int x9), none, none, none] [] := by
        intro x9 hf
        have hf := jE1 ek143_9 hf
        refine j_iload_n (pc := 143) X dX9_same_143 rfl ?_
        obtain ⟨j152_11, ej152_11, hf⟩ := jn_s hf
        have hj152_11 : ∀ (t11 : Int32), j152_11 t11 = some (r, Cr) → J g (WM cI am) 7 C8 152 [some (.ref (am 0)), some (.int a1), some (.int a2), some (.int x9), none, none, none] [.int t11] := by
          intro t11 hf
          have hf := jE1 ej152_11 hf
          exact j_retW hR dX9_same_152 hf
        refine j_if_eq (tgt := 151) (pc := 144) X dX9_same_144 rfl (fun c13 => ?_) (fun c13 => ?_)
        · have hf := kT c13 hf
          refine j_iconst (pc := 151) X dX9_same_151 kc_0 ?_
          exact hj152_11 _ hf
        · have hf := kF c13 hf
          refine j_iconst (pc := 147) X dX9_same_147 kc_1 ?_
          refine j_goto (tgt := 152) (pc := 148) X dX9_same_148 rfl ?_
          exact hj152_11 _ hf
      exact lt_X9_same_28 X hI Y hR N a1 a2 C8    k143_9 hk143_9 N _ _ hf
    · have hf := kT c6 hf
      refine j_bipush (pc := 16) X dX9_same_16 kb_m11 ?_
      exact j_retW hR dX9_same_18 hf
theorem c_X9_same {l : Launch} {D : va_G} {cI cS : ClassId} {am : Nat → Nat} (hI : kInj 11 am) (N : Nat) (C : kS) (a1 : Int32) (a2 : Int32) {r : Int32} {Cr : kS} (hf : f_X9_same N C a1 a2 = some (r, Cr)) : mW l yX9_same wsX9_same rm_X9_same D cI cS (WM cI am) (kAd 11 am) C [.ref (am 0), .int a1, .int a2] r Cr :=
  mW.of (by decide) rfl rfl (Nat.le_of_ble_eq_true rfl) (WM_D hI) (fun g X Y hR => t_X9_same X hI Y hR N C a1 a2  hf)
abbrev rm_X9_set : Room := { frames := 2, cells := 0, slots := 0, locals := 43 }
theorem lk_X9_set_0 : Cond.fieldLink RX9 7 "BlackBarsModel" "s" "[I" ∈ wsX9_set := List.mem_of_getElem? (i := 1) rfl
theorem iw_X9_set_X9 : ∀ w ∈ wsX90, w ∈ wsX9_set := fun _ h => List.mem_cons_of_mem _ (List.mem_append_right _ h)
def f_X9_set (N : Nat) (C : kS) (a1 : Int32) (a2 : Int32) : Option (Int32 × kS) := (f_X9_isSetting N a1 a2).bind (fun r2 => if r2 = 0 then some ((-11), C) else (f_X9_records N C).bind (fun C5 => gIn (3 + a1) 642 (gIn (3 + a1) 642 (jn (up1 C5 1 (upd (C5 1) ((3 + a1).toNatClampNeg) a2)) (fun C8 : kS => some (C5 1 (3 + a1).toNatClampNeg, C8))))))
theorem hd_X9_set : kHd yX9_set 2 := by decide +kernel
set_option maxHeartbeats 4000000 in
set_option maxRecDepth 100000 in
theorem t_X9_set {g : kG} {cI cS : ClassId} {am : Nat → Nat} (X : Kx g cI cS cX9_set RX9 wsX9_set 4 rm_X9_set) {r : Int32} {Cr : kS} (hI : kInj 11 am) (Y : Kw g (WM cI am) (kAd 11 am)) (hR : kRI g (WM cI am) 4 cX9_set .int Cr r) (N : Nat) (C : kS) (a1 : Int32) (a2 : Int32)  (hf : f_X9_set N C a1 a2 = some (r, Cr)) : J g (WM cI am) 4 C 0 [some (.ref (am 0)), some (.int a1), some (.int a2), none] [] := by
  unfold f_X9_set at hf
  refine j_iload_n (pc := 0) X dX9_set_0 rfl ?_
  refine j_iload_n (pc := 1) X dX9_set_1 rfl ?_
  obtain ⟨r2, h1, hf⟩ := kB hf
  refine j_callP (pc := 2) X (c_X9_isSetting N a1 a2 h1) gX9_set_X9_isSetting rfl ⟨rfl, rfl⟩ hd_X9_isSetting ⟨(Nat.le_of_ble_eq_true rfl), (Nat.le_of_ble_eq_true rfl)⟩ rfl (Nat.le_of_ble_eq_true rfl) rfl dX9_set_2 ?_
  refine j_if_ne (tgt := 11) (pc := 5) X dX9_set_5 rfl (fun c3 => ?_) (fun c3 => ?_)
  · have hf := kF c3 hf
    refine j_aload_n (pc := 11) X dX9_set_11 rfl ?_
    obtain ⟨C5, h4, hf⟩ := kB hf
    refine j_callV (pc := 12) X Y (c_X9_records hI N C  h4) gX9_set_X9_records rfl ⟨rfl, rfl⟩ rfl hd_X9_records ⟨(Nat.le_of_ble_eq_true rfl), (Nat.le_of_ble_eq_true rfl)⟩ wm0 rfl rfl rfl (Nat.le_of_ble_eq_true rfl) rfl dX9_set_12 ?_
    refine j_aload_n (pc := 15) X dX9_set_15 rfl ?_
    refine j_get (pc := 16) X iw_X9_set_X9 wm0 rfl 0 (Nat.le_of_ble_eq_true rfl) lk_X9_set_0 (v := .ref (am 1)) rfl dX9_set_16 ?_
    refine j_iconst (pc := 19) X dX9_set_19 kc_3 ?_
    refine j_iload_n (pc := 20) X dX9_set_20 rfl ?_
    refine j_iadd (pc := 21) X dX9_set_21 ?_
    obtain ⟨b6, hf⟩ := gIn_s hf
    refine j_iald (pc := 22) X wm1 b6 dX9_set_22 ?_
    refine j_istore_n (pc := 23) X dX9_set_23 (Nat.le_of_ble_eq_true rfl) (lv' := [some (.ref (am 0)), some (.int a1), some (.int a2), some (.int (C5 1 (3 + a1).toNatClampNeg))]) rfl ?_
    refine j_aload_n (pc := 24) X dX9_set_24 rfl ?_
    refine j_get (pc := 25) X iw_X9_set_X9 wm0 rfl 0 (Nat.le_of_ble_eq_true rfl) lk_X9_set_0 (v := .ref (am 1)) rfl dX9_set_25 ?_
    refine j_iconst (pc := 28) X dX9_set_28 kc_3 ?_
    refine j_iload_n (pc := 29) X dX9_set_29 rfl ?_
    refine j_iadd (pc := 30) X dX9_set_30 ?_
    refine j_iload_n (pc := 31) X dX9_set_31 rfl ?_
    obtain ⟨b7, hf⟩ := gIn_s hf
    obtain ⟨C8, eC8, hf⟩ := jn_s hf
    refine j_iast (C' := C8) (pc := 32) X Y wm1 b7 dX9_set_32 (by rw [eC8]; exact sm1 _) ?_
    refine j_iload_n (pc := 33) X dX9_set_33 rfl ?_
    exact j_retW hR dX9_set_34 hf
  · have hf := kT c3 hf
    refine j_bipush (pc := 8) X dX9_set_8 kb_m11 ?_
    exact j_retW hR dX9_set_10 hf
theorem c_X9_set {l : Launch} {D : va_G} {cI cS : ClassId} {am : Nat → Nat} (hI : kInj 11 am) (N : Nat) (C : kS) (a1 : Int32) (a2 : Int32) {r : Int32} {Cr : kS} (hf : f_X9_set N C a1 a2 = some (r, Cr)) : mW l yX9_set wsX9_set rm_X9_set D cI cS (WM cI am) (kAd 11 am) C [.ref (am 0), .int a1, .int a2] r Cr :=
  mW.of (by decide) rfl rfl (Nat.le_of_ble_eq_true rfl) (WM_D hI) (fun g X Y hR => t_X9_set X hI Y hR N C a1 a2  hf)
abbrev rm_X9_stepFor : Room := { frames := 5, cells := 0, slots := 0, locals := 114 }
def lp_X9_stepFor_15 (N : Nat) (a1 : Int32) (k43_4 : kS → Option (Int32 × kS)) : Nat → Int32 → kS → Option (Int32 × kS)
  | 0, _, _ => none
  | n + 1, x6, C7 => if 50 < x6 then k43_4 C7 else (f_X9_lays N C7 1 x6).bind (fun C10 => (f_X9_fewest N C10).bind (fun r12 => if r12 < a1 then lp_X9_stepFor_15 N a1 k43_4 n (x6 + 1) C10 else some (x6, C10)))
def f_X9_stepFor (N : Nat) (C : kS) (a1 : Int32) : Option (Int32 × kS) := (f_X9_in N a1 1 8).bind (fun r2 => if r2 = 0 then some ((-11), C) else jn (fun (C4 : kS) => some ((-14), C4)) (fun k43_4 => lp_X9_stepFor_15 N a1 k43_4 N 1 C))
theorem hd_X9_stepFor : kHd yX9_stepFor 1 := by decide +kernel
set_option maxHeartbeats 4000000 in
set_option maxRecDepth 100000 in
theorem lt_X9_stepFor_15 {g : kG} {cI cS : ClassId} {am : Nat → Nat} (X : Kx g cI cS cX9_stepFor RX9 wsX9_stepFor 3 rm_X9_stepFor) {r : Int32} {Cr : kS} (hI : kInj 11 am) (Y : Kw g (WM cI am) (kAd 11 am)) (hR : kRI g (WM cI am) 3 cX9_stepFor .int Cr r) (N : Nat) (a1 : Int32)  (k43_4 : kS → Option (Int32 × kS)) (hk43_4 : ∀ (C4 : kS), k43_4 C4 = some (r, Cr) → J g (WM cI am) 3 C4 43 [some (.ref (am 0)), some (.int a1), none] []) : ∀ (n : Nat) (x6 : Int32) (C7 : kS), lp_X9_stepFor_15 N a1 k43_4 n x6 C7 = some (r, Cr) → J g (WM cI am) 3 C7 15 [some (.ref (am 0)), some (.int a1), some (.int x6)] [] := by
  intro n
  induction n with
  | zero =>
    intro x6 C7 hf
    rw [lp_X9_stepFor_15] at hf
    cases hf
  | succ n ih =>
    intro x6 C7 hf
    rw [lp_X9_stepFor_15] at hf
    refine j_iload_n (pc := 15) X dX9_stepFor_15 rfl ?_
    refine j_bipush (pc := 16) X dX9_stepFor_16 kb_50 ?_
    refine j_icmp_gt (tgt := 43) (pc := 18) X dX9_stepFor_18 rfl (fun c8 => ?_) (fun c8 => ?_)
    · have hf := kT c8 hf
      refine j_weak (lv' := [some (.ref (am 0)), some (.int a1), none]) (And.intro rfl (And.intro rfl trivial)) ?_
      exact hk43_4 _ hf
    · have hf := kF c8 hf
      refine j_aload_n (pc := 21) X dX9_stepFor_21 rfl ?_
      refine j_iconst (pc := 22) X dX9_stepFor_22 kc_1 ?_
      refine j_iload_n (pc := 23) X dX9_stepFor_23 rfl ?_
      obtain ⟨C10, h9, hf⟩ := kB hf
      refine j_callV (pc := 24) X Y (c_X9_lays hI N C7 1 x6 h9) gX9_stepFor_X9_lays rfl ⟨rfl, rfl⟩ rfl hd_X9_lays ⟨(Nat.le_of_ble_eq_true rfl), (Nat.le_of_ble_eq_true rfl)⟩ wm0 rfl rfl rfl (Nat.le_of_ble_eq_true rfl) rfl dX9_stepFor_24 ?_
      refine j_aload_n (pc := 27) X dX9_stepFor_27 rfl ?_
      obtain ⟨r12, h11, hf⟩ := kB hf
      refine j_callI (pc := 28) X (c_X9_fewest N C10  h11) gX9_stepFor_X9_fewest rfl ⟨rfl, rfl⟩ rfl hd_X9_fewest ⟨(Nat.le_of_ble_eq_true rfl), (Nat.le_of_ble_eq_true rfl)⟩ wm0 rfl rfl rfl (Nat.le_of_ble_eq_true rfl) rfl dX9_stepFor_28 ?_
      refine j_iload_n (pc := 31) X dX9_stepFor_31 rfl ?_
      refine j_icmp_lt (tgt := 37) (pc := 32) X dX9_stepFor_32 rfl (fun c13 => ?_) (fun c13 => ?_)
      · have hf := kT c13 hf
        refine j_iinc (pc := 37) X dX9_stepFor_37 rfl (v := x6 + 1) (by rw [kc_1]) (Nat.le_of_ble_eq_true rfl) (lv' := [some (.ref (am 0)), some (.int a1), some (.int (x6 + 1))]) rfl ?_
        refine j_goto (tgt := 15) (pc := 40) X dX9_stepFor_40 rfl ?_
        exact ih _ _ hf
      · have hf := kF c13 hf
        refine j_iload_n (pc := 35) X dX9_stepFor_35 rfl ?_
        exact j_retW hR dX9_stepFor_36 hf
set_option maxHeartbeats 4000000 in
set_option maxRecDepth 100000 in
theorem t_X9_stepFor {g : kG} {cI cS : ClassId} {am : Nat → Nat} (X : Kx g cI cS cX9_stepFor RX9 wsX9_stepFor 3 rm_X9_stepFor) {r : Int32} {Cr : kS} (hI : kInj 11 am) (Y : Kw g (WM cI am) (kAd 11 am)) (hR : kRI g (WM cI am) 3 cX9_stepFor .int Cr r) (N : Nat) (C : kS) (a1 : Int32)  (hf : f_X9_stepFor N C a1 = some (r, Cr)) : J g (WM cI am) 3 C 0 [some (.ref (am 0)), some (.int a1), none] [] := by
  unfold f_X9_stepFor at hf
  refine j_iload_n (pc := 0) X dX9_stepFor_0 rfl ?_
  refine j_iconst (pc := 1) X dX9_stepFor_1 kc_1 ?_
  refine j_bipush (pc := 2) X dX9_stepFor_2 kb_8 ?_
  obtain ⟨r2, h1, hf⟩ := kB hf
  refine j_callP (pc := 4) X (c_X9_in N a1 1 8 h1) gX9_stepFor_X9_in rfl ⟨rfl, rfl⟩ hd_X9_in ⟨(Nat.le_of_ble_eq_true rfl), (Nat.le_of_ble_eq_true rfl)⟩ rfl (Nat.le_of_ble_eq_true rfl) rfl dX9_stepFor_4 ?_
  refine j_if_ne (tgt := 13) (pc := 7) X dX9_stepFor_7 rfl (fun c3 => ?_) (fun c3 => ?_)
  · have hf := kF c3 hf
    refine j_iconst (pc := 13) X dX9_stepFor_13 kc_1 ?_
    refine j_istore_n (pc := 14) X dX9_stepFor_14 (Nat.le_of_ble_eq_true rfl) (lv' := [some (.ref (am 0)), some (.int a1), some (.int 1)]) rfl ?_
    obtain ⟨k43_4, ek43_4, hf⟩ := jn_s hf
    have hk43_4 : ∀ (C4 : kS), k43_4 C4 = some (r, Cr) → J g (WM cI am) 3 C4 43 [some (.ref (am 0)), some (.int a1), none] [] := by
      intro C4 hf
      have hf := jE1 ek43_4 hf
      refine j_bipush (pc := 43) X dX9_stepFor_43 kb_m14 ?_
      exact j_retW hR dX9_stepFor_45 hf
    exact lt_X9_stepFor_15 X hI Y hR N a1  k43_4 hk43_4 N _ _ hf
  · have hf := kT c3 hf
    refine j_bipush (pc := 10) X dX9_stepFor_10 kb_m11 ?_
    exact j_retW hR dX9_stepFor_12 hf
theorem c_X9_stepFor {l : Launch} {D : va_G} {cI cS : ClassId} {am : Nat → Nat} (hI : kInj 11 am) (N : Nat) (C : kS) (a1 : Int32) {r : Int32} {Cr : kS} (hf : f_X9_stepFor N C a1 = some (r, Cr)) : mW l yX9_stepFor wsX9_stepFor rm_X9_stepFor D cI cS (WM cI am) (kAd 11 am) C [.ref (am 0), .int a1] r Cr :=
  mW.of (by decide) rfl rfl (Nat.le_of_ble_eq_true rfl) (WM_D hI) (fun g X Y hR => t_X9_stepFor X hI Y hR N C a1  hf)
abbrev rm_X9_type : Room := { frames := 1, cells := 0, slots := 0, locals := 22 }
theorem lk_X9_type_0 : Cond.fieldLink RX9 48 "BlackBarsModel" "typed" "I" ∈ wsX9_type := List.mem_of_getElem? (i := 1) rfl
theorem iw_X9_type_X9 : ∀ w ∈ wsX90, w ∈ wsX9_type := fun _ h => List.mem_cons_of_mem _ (List.mem_append_right _ h)
theorem lk_X9_type_1 : Cond.fieldLink RX9 16 "BlackBarsModel" "text" "[I" ∈ wsX9_type := List.mem_of_getElem? (i := 2) rfl
def f_X9_type (N : Nat) (C : kS) (a1 : Int32) : Option (Int32 × kS) := (f_X9_in N a1 32 126).bind (fun r2 => if r2 = 0 then some ((-11), C) else if (C 0 4) = 200 then some ((-13), C) else gIn (C 0 4) 200 (jn (up1 C 3 (upd (C 3) ((C 0 4).toNatClampNeg) a1)) (fun C6 : kS => jn (up1 C6 0 (upd (C6 0) 4 ((C6 0 4) + 1))) (fun C7 : kS => some (C7 0 4, C7)))))
theorem hd_X9_type : kHd yX9_type 1 := by decide +kernel
set_option maxHeartbeats 4000000 in
set_option maxRecDepth 100000 in
theorem t_X9_type {g : kG} {cI cS : ClassId} {am : Nat → Nat} (X : Kx g cI cS cX9_type RX9 wsX9_type 2 rm_X9_type) {r : Int32} {Cr : kS} (hI : kInj 11 am) (Y : Kw g (WM cI am) (kAd 11 am)) (hR : kRI g (WM cI am) 2 cX9_type .int Cr r) (N : Nat) (C : kS) (a1 : Int32)  (hf : f_X9_type N C a1 = some (r, Cr)) : J g (WM cI am) 2 C 0 [some (.ref (am 0)), some (.int a1)] [] := by
  unfold f_X9_type at hf
  refine j_iload_n (pc := 0) X dX9_type_0 rfl ?_
  refine j_bipush (pc := 1) X dX9_type_1 kb_32 ?_
  refine j_bipush (pc := 3) X dX9_type_3 kb_126 ?_
  obtain ⟨r2, h1, hf⟩ := kB hf
  refine j_callP (pc := 5) X (c_X9_in N a1 32 126 h1) gX9_type_X9_in rfl ⟨rfl, rfl⟩ hd_X9_in ⟨(Nat.le_of_ble_eq_true rfl), (Nat.le_of_ble_eq_true rfl)⟩ rfl (Nat.le_of_ble_eq_true rfl) rfl dX9_type_5 ?_
  refine j_if_ne (tgt := 14) (pc := 8) X dX9_type_8 rfl (fun c3 => ?_) (fun c3 => ?_)
  · have hf := kF c3 hf
    refine j_aload_n (pc := 14) X dX9_type_14 rfl ?_
    refine j_get (pc := 15) X iw_X9_type_X9 wm0 rfl 4 (Nat.le_of_ble_eq_true rfl) lk_X9_type_0 (v := .int (C 0 4)) rfl dX9_type_15 ?_
    refine j_sipush (pc := 18) X dX9_type_18 ks_200 ?_
    refine j_icmp_ne (tgt := 27) (pc := 21) X dX9_type_21 rfl (fun c4 => ?_) (fun c4 => ?_)
    · have hf := kF c4 hf
      refine j_aload_n (pc := 27) X dX9_type_27 rfl ?_
      refine j_get (pc := 28) X iw_X9_type_X9 wm0 rfl 3 (Nat.le_of_ble_eq_true rfl) lk_X9_type_1 (v := .ref (am 3)) rfl dX9_type_28 ?_
      refine j_aload_n (pc := 31) X dX9_type_31 rfl ?_
      refine j_get (pc := 32) X iw_X9_type_X9 wm0 rfl 4 (Nat.le_of_ble_eq_true rfl) lk_X9_type_0 (v := .int (C 0 4)) rfl dX9_type_32 ?_
      refine j_iload_n (pc := 35) X dX9_type_35 rfl ?_
      obtain ⟨b5, hf⟩ := gIn_s hf
      obtain ⟨C6, eC6, hf⟩ := jn_s hf
      refine j_iast (C' := C6) (pc := 36) X Y wm3 b5 dX9_type_36 (by rw [eC6]; exact sm3 _) ?_
      refine j_aload_n (pc := 37) X dX9_type_37 rfl ?_
      refine j_dup (pc := 38) X dX9_type_38 rfl ?_
      refine j_get (pc := 39) X iw_X9_type_X9 wm0 rfl 4 (Nat.le_of_ble_eq_true rfl) lk_X9_type_0 (v := .int (C6 0 4)) rfl dX9_type_39 ?_
      refine j_iconst (pc := 42) X dX9_type_42 kc_1 ?_
      refine j_iadd (pc := 43) X dX9_type_43 ?_
      obtain ⟨C7, eC7, hf⟩ := jn_s hf
      refine j_put (C' := C7) (pc := 44) X Y iw_X9_type_X9 tyX9 tyX9_ok nmX9 wm0 rfl 4 (Nat.le_of_ble_eq_true rfl) lk_X9_type_0 rfl (tyX9_ok 4 (Nat.le_of_ble_eq_true rfl)) (Nat.le_of_ble_eq_true rfl) dX9_type_44 (by rw [eC7]; exact sm0_4 _) ?_
      refine j_aload_n (pc := 47) X dX9_type_47 rfl ?_
      refine j_get (pc := 48) X iw_X9_type_X9 wm0 rfl 4 (Nat.le_of_ble_eq_true rfl) lk_X9_type_0 (v := .int (C7 0 4)) rfl dX9_type_48 ?_
      exact j_retW hR dX9_type_51 hf
    · have hf := kT c4 hf
      refine j_bipush (pc := 24) X dX9_type_24 kb_m13 ?_
      exact j_retW hR dX9_type_26 hf
  · have hf := kT c3 hf
    refine j_bipush (pc := 11) X dX9_type_11 kb_m11 ?_
    exact j_retW hR dX9_type_13 hf
theorem c_X9_type {l : Launch} {D : va_G} {cI cS : ClassId} {am : Nat → Nat} (hI : kInj 11 am) (N : Nat) (C : kS) (a1 : Int32) {r : Int32} {Cr : kS} (hf : f_X9_type N C a1 = some (r, Cr)) : mW l yX9_type wsX9_type rm_X9_type D cI cS (WM cI am) (kAd 11 am) C [.ref (am 0), .int a1] r Cr :=
  mW.of (by decide) rfl rfl (Nat.le_of_ble_eq_true rfl) (WM_D hI) (fun g X Y hR => t_X9_type X hI Y hR N C a1  hf)
abbrev rm_X9_under : Room := { frames := 6, cells := 0, slots := 0, locals := 134 }
def f_X9_under (N : Nat) (C : kS) (a1 : Int32) : Option (Int32 × kS) := (f_X9_in N a1 0 500).bind (fun r2 => if r2 = 0 then some ((-11), C) else (f_X9_laysNow N C).bind (fun C5 => (f_X9_namesUnder N C5 a1).bind (fun r7 => some (r7, C5))))
theorem hd_X9_under : kHd yX9_under 1 := by decide +kernel
set_option maxHeartbeats 4000000 in
set_option maxRecDepth 100000 in
theorem t_X9_under {g : kG} {cI cS : ClassId} {am : Nat → Nat} (X : Kx g cI cS cX9_under RX9 wsX9_under 2 rm_X9_under) {r : Int32} {Cr : kS} (hI : kInj 11 am) (Y : Kw g (WM cI am) (kAd 11 am)) (hR : kRI g (WM cI am) 2 cX9_under .int Cr r) (N : Nat) (C : kS) (a1 : Int32)  (hf : f_X9_under N C a1 = some (r, Cr)) : J g (WM cI am) 2 C 0 [some (.ref (am 0)), some (.int a1)] [] := by
  unfold f_X9_under at hf
  refine j_iload_n (pc := 0) X dX9_under_0 rfl ?_
  refine j_iconst (pc := 1) X dX9_under_1 kc_0 ?_
  refine j_sipush (pc := 2) X dX9_under_2 ks_500 ?_
  obtain ⟨r2, h1, hf⟩ := kB hf
  refine j_callP (pc := 5) X (c_X9_in N a1 0 500 h1) gX9_under_X9_in rfl ⟨rfl, rfl⟩ hd_X9_in ⟨(Nat.le_of_ble_eq_true rfl), (Nat.le_of_ble_eq_true rfl)⟩ rfl (Nat.le_of_ble_eq_true rfl) rfl dX9_under_5 ?_
  refine j_if_ne (tgt := 14) (pc := 8) X dX9_under_8 rfl (fun c3 => ?_) (fun c3 => ?_)
  · have hf := kF c3 hf
    refine j_aload_n (pc := 14) X dX9_under_14 rfl ?_
    obtain ⟨C5, h4, hf⟩ := kB hf
    refine j_callV (pc := 15) X Y (c_X9_laysNow hI N C  h4) gX9_under_X9_laysNow rfl ⟨rfl, rfl⟩ rfl hd_X9_laysNow ⟨(Nat.le_of_ble_eq_true rfl), (Nat.le_of_ble_eq_true rfl)⟩ wm0 rfl rfl rfl (Nat.le_of_ble_eq_true rfl) rfl dX9_under_15 ?_
    refine j_aload_n (pc := 18) X dX9_under_18 rfl ?_
    refine j_iload_n (pc := 19) X dX9_under_19 rfl ?_
    obtain ⟨r7, h6, hf⟩ := kB hf
    refine j_callI (pc := 20) X (c_X9_namesUnder N C5 a1 h6) gX9_under_X9_namesUnder rfl ⟨rfl, rfl⟩ rfl hd_X9_namesUnder ⟨(Nat.le_of_ble_eq_true rfl), (Nat.le_of_ble_eq_true rfl)⟩ wm0 rfl rfl rfl (Nat.le_of_ble_eq_true rfl) rfl dX9_under_20 ?_
    exact j_retW hR dX9_under_23 hf
  · have hf := kT c3 hf
    refine j_bipush (pc := 11) X dX9_under_11 kb_m11 ?_
    exact j_retW hR dX9_under_13 hf
theorem c_X9_under {l : Launch} {D : va_G} {cI cS : ClassId} {am : Nat → Nat} (hI : kInj 11 am) (N : Nat) (C : kS) (a1 : Int32) {r : Int32} {Cr : kS} (hf : f_X9_under N C a1 = some (r, Cr)) : mW l yX9_under wsX9_under rm_X9_under D cI cS (WM cI am) (kAd 11 am) C [.ref (am 0), .int a1] r Cr :=
  mW.of (by decide) rfl rfl (Nat.le_of_ble_eq_true rfl) (WM_D hI) (fun g X Y hR => t_X9_under X hI Y hR N C a1  hf)
abbrev rm_X9_undo : Room := { frames := 0, cells := 0, slots := 0, locals := 0 }
theorem lk_X9_undo_0 : Cond.fieldLink RX9 40 "BlackBarsModel" "states" "I" ∈ wsX9_undo := List.mem_of_getElem? (i := 1) rfl
theorem iw_X9_undo_X9 : ∀ w ∈ wsX90, w ∈ wsX9_undo := fun _ h => List.mem_cons_of_mem _ (List.mem_append_right _ h)
theorem lk_X9_undo_1 : Cond.fieldLink RX9 7 "BlackBarsModel" "s" "[I" ∈ wsX9_undo := List.mem_of_getElem? (i := 2) rfl
theorem lk_X9_undo_2 : Cond.fieldLink RX9 13 "BlackBarsModel" "was" "[I" ∈ wsX9_undo := List.mem_of_getElem? (i := 3) rfl
def lp_X9_undo_22 (N : Nat) (k56_3 : kS → Option (Int32 × kS)) : Nat → Int32 → kS → Option (Int32 × kS)
  | 0, _, _ => none
  | n + 1, x5, C6 => if 642 ≤ x5 then k56_3 C6 else gIn ((642 * (C6 0 2)) + x5) 2568 (gIn x5 642 (jn (up1 C6 1 (upd (C6 1) (x5.toNatClampNeg) (C6 2 ((642 * (C6 0 2)) + x5).toNatClampNeg))) (fun C10 : kS => lp_X9_undo_22 N k56_3 n (x5 + 1) C10)))
def f_X9_undo (N : Nat) (C : kS) : Option (Int32 × kS) := if (C 0 2) = 0 then some ((-12), C) else jn (up1 C 0 (upd (C 0) 2 ((C 0 2) - 1))) (fun C2 : kS => jn (fun (C3 : kS) => some (C3 0 2, C3)) (fun k56_3 => lp_X9_undo_22 N k56_3 N 0 C2))
theorem hd_X9_undo : kHd yX9_undo 0 := by decide +kernel
set_option maxHeartbeats 4000000 in
set_option maxRecDepth 100000 in
theorem lt_X9_undo_22 {g : kG} {cI cS : ClassId} {am : Nat → Nat} (X : Kx g cI cS cX9_undo RX9 wsX9_undo 2 rm_X9_undo) {r : Int32} {Cr : kS} (hI : kInj 11 am) (Y : Kw g (WM cI am) (kAd 11 am)) (hR : kRI g (WM cI am) 2 cX9_undo .int Cr r) (N : Nat)   (k56_3 : kS → Option (Int32 × kS)) (hk56_3 : ∀ (C3 : kS), k56_3 C3 = some (r, Cr) → J g (WM cI am) 2 C3 56 [some (.ref (am 0)), none] []) : ∀ (n : Nat) (x5 : Int32) (C6 : kS), lp_X9_undo_22 N k56_3 n x5 C6 = some (r, Cr) → J g (WM cI am) 2 C6 22 [some (.ref (am 0)), some (.int x5)] [] := by
  intro n
  induction n with
  | zero =>
    intro x5 C6 hf
    rw [lp_X9_undo_22] at hf
    cases hf
  | succ n ih =>
    intro x5 C6 hf
    rw [lp_X9_undo_22] at hf
    refine j_iload_n (pc := 22) X dX9_undo_22 rfl ?_
    refine j_sipush (pc := 23) X dX9_undo_23 ks_642 ?_
    refine j_icmp_ge (tgt := 56) (pc := 26) X dX9_undo_26 rfl (fun c7 => ?_) (fun c7 => ?_)
    · have hf := kT c7 hf
      refine j_weak (lv' := [some (.ref (am 0)), none]) (And.intro rfl trivial) ?_
      exact hk56_3 _ hf
    · have hf := kF c7 hf
      refine j_aload_n (pc := 29) X dX9_undo_29 rfl ?_
      refine j_get (pc := 30) X iw_X9_undo_X9 wm0 rfl 0 (Nat.le_of_ble_eq_true rfl) lk_X9_undo_1 (v := .ref (am 1)) rfl dX9_undo_30 ?_
      refine j_iload_n (pc := 33) X dX9_undo_33 rfl ?_
      refine j_aload_n (pc := 34) X dX9_undo_34 rfl ?_
      refine j_get (pc := 35) X iw_X9_undo_X9 wm0 rfl 1 (Nat.le_of_ble_eq_true rfl) lk_X9_undo_2 (v := .ref (am 2)) rfl dX9_undo_35 ?_
      refine j_sipush (pc := 38) X dX9_undo_38 ks_642 ?_
      refine j_aload_n (pc := 41) X dX9_undo_41 rfl ?_
      refine j_get (pc := 42) X iw_X9_undo_X9 wm0 rfl 2 (Nat.le_of_ble_eq_true rfl) lk_X9_undo_0 (v := .int (C6 0 2)) rfl dX9_undo_42 ?_
      refine j_imul (pc := 45) X dX9_undo_45 ?_
      refine j_iload_n (pc := 46) X dX9_undo_46 rfl ?_
      refine j_iadd (pc := 47) X dX9_undo_47 ?_
      obtain ⟨b8, hf⟩ := gIn_s hf
      refine j_iald (pc := 48) X wm2 b8 dX9_undo_48 ?_
      obtain ⟨b9, hf⟩ := gIn_s hf
      obtain ⟨C10, eC10, hf⟩ := jn_s hf
      refine j_iast (C' := C10) (pc := 49) X Y wm1 b9 dX9_undo_49 (by rw [eC10]; exact sm1 _) ?_
      refine j_iinc (pc := 50) X dX9_undo_50 rfl (v := x5 + 1) (by rw [kc_1]) (Nat.le_of_ble_eq_true rfl) (lv' := [some (.ref (am 0)), some (.int (x5 + 1))]) rfl ?_
      refine j_goto (tgt := 22) (pc := 53) X dX9_undo_53 rfl ?_
      exact ih _ _ hf
set_option maxHeartbeats 4000000 in
set_option maxRecDepth 100000 in
theorem t_X9_undo {g : kG} {cI cS : ClassId} {am : Nat → Nat} (X : Kx g cI cS cX9_undo RX9 wsX9_undo 2 rm_X9_undo) {r : Int32} {Cr : kS} (hI : kInj 11 am) (Y : Kw g (WM cI am) (kAd 11 am)) (hR : kRI g (WM cI am) 2 cX9_undo .int Cr r) (N : Nat) (C : kS)   (hf : f_X9_undo N C = some (r, Cr)) : J g (WM cI am) 2 C 0 [some (.ref (am 0)), none] [] := by
  unfold f_X9_undo at hf
  refine j_aload_n (pc := 0) X dX9_undo_0 rfl ?_
  refine j_get (pc := 1) X iw_X9_undo_X9 wm0 rfl 2 (Nat.le_of_ble_eq_true rfl) lk_X9_undo_0 (v := .int (C 0 2)) rfl dX9_undo_1 ?_
  refine j_if_ne (tgt := 10) (pc := 4) X dX9_undo_4 rfl (fun c1 => ?_) (fun c1 => ?_)
  · have hf := kF c1 hf
    refine j_aload_n (pc := 10) X dX9_undo_10 rfl ?_
    refine j_dup (pc := 11) X dX9_undo_11 rfl ?_
    refine j_get (pc := 12) X iw_X9_undo_X9 wm0 rfl 2 (Nat.le_of_ble_eq_true rfl) lk_X9_undo_0 (v := .int (C 0 2)) rfl dX9_undo_12 ?_
    refine j_iconst (pc := 15) X dX9_undo_15 kc_1 ?_
    refine j_isub (pc := 16) X dX9_undo_16 ?_
    obtain ⟨C2, eC2, hf⟩ := jn_s hf
    refine j_put (C' := C2) (pc := 17) X Y iw_X9_undo_X9 tyX9 tyX9_ok nmX9 wm0 rfl 2 (Nat.le_of_ble_eq_true rfl) lk_X9_undo_0 rfl (tyX9_ok 2 (Nat.le_of_ble_eq_true rfl)) (Nat.le_of_ble_eq_true rfl) dX9_undo_17 (by rw [eC2]; exact sm0_2 _) ?_
    refine j_iconst (pc := 20) X dX9_undo_20 kc_0 ?_
    refine j_istore_n (pc := 21) X dX9_undo_21 (Nat.le_of_ble_eq_true rfl) (lv' := [some (.ref (am 0)), some (.int 0)]) rfl ?_
    obtain ⟨k56_3, ek56_3, hf⟩ := jn_s hf
    have hk56_3 : ∀ (C3 : kS), k56_3 C3 = some (r, Cr) → J g (WM cI am) 2 C3 56 [some (.ref (am 0)), none] [] := by
      intro C3 hf
      have hf := jE1 ek56_3 hf
      refine j_aload_n (pc := 56) X dX9_undo_56 rfl ?_
      refine j_get (pc := 57) X iw_X9_undo_X9 wm0 rfl 2 (Nat.le_of_ble_eq_true rfl) lk_X9_undo_0 (v := .int (C3 0 2)) rfl dX9_undo_57 ?_
      exact j_retW hR dX9_undo_60 hf
    exact lt_X9_undo_22 X hI Y hR N   k56_3 hk56_3 N _ _ hf
  · have hf := kT c1 hf
    refine j_bipush (pc := 7) X dX9_undo_7 kb_m12 ?_
    exact j_retW hR dX9_undo_9 hf
theorem c_X9_undo {l : Launch} {D : va_G} {cI cS : ClassId} {am : Nat → Nat} (hI : kInj 11 am) (N : Nat) (C : kS)  {r : Int32} {Cr : kS} (hf : f_X9_undo N C = some (r, Cr)) : mW l yX9_undo wsX9_undo rm_X9_undo D cI cS (WM cI am) (kAd 11 am) C [.ref (am 0)] r Cr :=
  mW.of (by decide) rfl rfl (Nat.le_of_ble_eq_true rfl) (WM_D hI) (fun g X Y hR => t_X9_undo X hI Y hR N C   hf)
abbrev rm_X9_widen : Room := { frames := 2, cells := 0, slots := 0, locals := 42 }
theorem lk_X9_widen_0 : Cond.fieldLink RX9 7 "BlackBarsModel" "s" "[I" ∈ wsX9_widen := List.mem_of_getElem? (i := 1) rfl
theorem iw_X9_widen_X9 : ∀ w ∈ wsX90, w ∈ wsX9_widen := fun _ h => List.mem_cons_of_mem _ (List.mem_append_right _ h)
def f_X9_widen (N : Nat) (C : kS) (a1 : Int32) (a2 : Int32) : Option (Int32 × kS) := (f_X9_isLetter N a1).bind (fun r2 => if r2 = 0 then some ((-11), C) else (f_X9_in N a2 1 9).bind (fun r5 => if r5 = 0 then some ((-11), C) else (f_X9_records N C).bind (fun C8 => gIn ((8 + a1) - 97) 642 (gIn ((8 + a1) - 97) 642 (jn (up1 C8 1 (upd (C8 1) (((8 + a1) - 97).toNatClampNeg) a2)) (fun C11 : kS => some (C8 1 ((8 + a1) - 97).toNatClampNeg, C11)))))))
theorem hd_X9_widen : kHd yX9_widen 2 := by decide +kernel
set_option maxHeartbeats 4000000 in
set_option maxRecDepth 100000 in
theorem t_X9_widen {g : kG} {cI cS : ClassId} {am : Nat → Nat} (X : Kx g cI cS cX9_widen RX9 wsX9_widen 5 rm_X9_widen) {r : Int32} {Cr : kS} (hI : kInj 11 am) (Y : Kw g (WM cI am) (kAd 11 am)) (hR : kRI g (WM cI am) 5 cX9_widen .int Cr r) (N : Nat) (C : kS) (a1 : Int32) (a2 : Int32)  (hf : f_X9_widen N C a1 a2 = some (r, Cr)) : J g (WM cI am) 5 C 0 [some (.ref (am 0)), some (.int a1), some (.int a2), none, none] [] := by
  unfold f_X9_widen at hf
  refine j_iload_n (pc := 0) X dX9_widen_0 rfl ?_
  obtain ⟨r2, h1, hf⟩ := kB hf
  refine j_callP (pc := 1) X (c_X9_isLetter N a1 h1) gX9_widen_X9_isLetter rfl ⟨rfl, rfl⟩ hd_X9_isLetter ⟨(Nat.le_of_ble_eq_true rfl), (Nat.le_of_ble_eq_true rfl)⟩ rfl (Nat.le_of_ble_eq_true rfl) rfl dX9_widen_1 ?_
  refine j_if_eq (tgt := 17) (pc := 4) X dX9_widen_4 rfl (fun c3 => ?_) (fun c3 => ?_)
  · have hf := kT c3 hf
    refine j_bipush (pc := 17) X dX9_widen_17 kb_m11 ?_
    exact j_retW hR dX9_widen_19 hf
  · have hf := kF c3 hf
    refine j_iload_n (pc := 7) X dX9_widen_7 rfl ?_
    refine j_iconst (pc := 8) X dX9_widen_8 kc_1 ?_
    refine j_bipush (pc := 9) X dX9_widen_9 kb_9 ?_
    obtain ⟨r5, h4, hf⟩ := kB hf
    refine j_callP (pc := 11) X (c_X9_in N a2 1 9 h4) gX9_widen_X9_in rfl ⟨rfl, rfl⟩ hd_X9_in ⟨(Nat.le_of_ble_eq_true rfl), (Nat.le_of_ble_eq_true rfl)⟩ rfl (Nat.le_of_ble_eq_true rfl) rfl dX9_widen_11 ?_
    refine j_if_ne (tgt := 20) (pc := 14) X dX9_widen_14 rfl (fun c6 => ?_) (fun c6 => ?_)
    · have hf := kF c6 hf
      refine j_aload_n (pc := 20) X dX9_widen_20 rfl ?_
      obtain ⟨C8, h7, hf⟩ := kB hf
      refine j_callV (pc := 21) X Y (c_X9_records hI N C  h7) gX9_widen_X9_records rfl ⟨rfl, rfl⟩ rfl hd_X9_records ⟨(Nat.le_of_ble_eq_true rfl), (Nat.le_of_ble_eq_true rfl)⟩ wm0 rfl rfl rfl (Nat.le_of_ble_eq_true rfl) rfl dX9_widen_21 ?_
      refine j_bipush (pc := 24) X dX9_widen_24 kb_8 ?_
      refine j_iload_n (pc := 26) X dX9_widen_26 rfl ?_
      refine j_iadd (pc := 27) X dX9_widen_27 ?_
      refine j_bipush (pc := 28) X dX9_widen_28 kb_97 ?_
      refine j_isub (pc := 30) X dX9_widen_30 ?_
      refine j_istore_n (pc := 31) X dX9_widen_31 (Nat.le_of_ble_eq_true rfl) (lv' := [some (.ref (am 0)), some (.int a1), some (.int a2), some (.int ((8 + a1) - 97)), none]) rfl ?_
      refine j_aload_n (pc := 32) X dX9_widen_32 rfl ?_
      refine j_get (pc := 33) X iw_X9_widen_X9 wm0 rfl 0 (Nat.le_of_ble_eq_true rfl) lk_X9_widen_0 (v := .ref (am 1)) rfl dX9_widen_33 ?_
      refine j_iload_n (pc := 36) X dX9_widen_36 rfl ?_
      obtain ⟨b9, hf⟩ := gIn_s hf
      refine j_iald (pc := 37) X wm1 b9 dX9_widen_37 ?_
      refine j_istore (pc := 38) X dX9_widen_38 (Nat.le_of_ble_eq_true rfl) (lv' := [some (.ref (am 0)), some (.int a1), some (.int a2), some (.int ((8 + a1) - 97)), some (.int (C8 1 ((8 + a1) - 97).toNatClampNeg))]) rfl ?_
      refine j_aload_n (pc := 40) X dX9_widen_40 rfl ?_
      refine j_get (pc := 41) X iw_X9_widen_X9 wm0 rfl 0 (Nat.le_of_ble_eq_true rfl) lk_X9_widen_0 (v := .ref (am 1)) rfl dX9_widen_41 ?_
      refine j_iload_n (pc := 44) X dX9_widen_44 rfl ?_
      refine j_iload_n (pc := 45) X dX9_widen_45 rfl ?_
      obtain ⟨b10, hf⟩ := gIn_s hf
      obtain ⟨C11, eC11, hf⟩ := jn_s hf
      refine j_iast (C' := C11) (pc := 46) X Y wm1 b10 dX9_widen_46 (by rw [eC11]; exact sm1 _) ?_
      refine j_iload (pc := 47) X dX9_widen_47 rfl ?_
      exact j_retW hR dX9_widen_49 hf
    · have hf := kT c6 hf
      refine j_bipush (pc := 17) X dX9_widen_17 kb_m11 ?_
      exact j_retW hR dX9_widen_19 hf
theorem c_X9_widen {l : Launch} {D : va_G} {cI cS : ClassId} {am : Nat → Nat} (hI : kInj 11 am) (N : Nat) (C : kS) (a1 : Int32) (a2 : Int32) {r : Int32} {Cr : kS} (hf : f_X9_widen N C a1 a2 = some (r, Cr)) : mW l yX9_widen wsX9_widen rm_X9_widen D cI cS (WM cI am) (kAd 11 am) C [.ref (am 0), .int a1, .int a2] r Cr :=
  mW.of (by decide) rfl rfl (Nat.le_of_ble_eq_true rfl) (WM_D hI) (fun g X Y hR => t_X9_widen X hI Y hR N C a1 a2  hf)
abbrev rm_X9_widthAgain : Room := { frames := 6, cells := 0, slots := 0, locals := 134 }
theorem lk_X9_widthAgain_0 : Cond.fieldLink RX9 116 "BlackBarsModel" "lines" "I" ∈ wsX9_widthAgain := List.mem_of_getElem? (i := 1) rfl
theorem iw_X9_widthAgain_X9 : ∀ w ∈ wsX90, w ∈ wsX9_widthAgain := fun _ h => List.mem_cons_of_mem _ (List.mem_append_right _ h)
theorem lk_X9_widthAgain_3 : Cond.fieldLink RX9 37 "BlackBarsModel" "placeOf" "[I" ∈ wsX9_widthAgain := List.mem_of_getElem? (i := 4) rfl
theorem lk_X9_widthAgain_4 : Cond.fieldLink RX9 31 "BlackBarsModel" "shown" "[I" ∈ wsX9_widthAgain := List.mem_of_getElem? (i := 5) rfl
theorem lk_X9_widthAgain_1 : Cond.fieldLink RX9 7 "BlackBarsModel" "s" "[I" ∈ wsX9_widthAgain := List.mem_of_getElem? (i := 2) rfl
theorem lk_X9_widthAgain_2 : Cond.fieldLink RX9 34 "BlackBarsModel" "lineOf" "[I" ∈ wsX9_widthAgain := List.mem_of_getElem? (i := 3) rfl
def lp_X9_widthAgain_23 (N : Nat) (a1 : Int32) (C2 : kS) (k55_5 : Int32 → Option (Int32 × kS)) : Nat → Int32 → Int32 → Option (Int32 × kS)
  | 0, _, _ => none
  | n + 1, x9, x10 => gIn 0 642 (if (C2 1 (0 : Int32).toNatClampNeg) ≤ x10 then k55_5 x9 else gIn x10 40 (jn (fun (t14 : Int32) => lp_X9_widthAgain_23 N a1 C2 k55_5 n t14 (x10 + 1)) (fun j48_14 => if (C2 9 x10.toNatClampNeg) = a1 then j48_14 x10 else j48_14 x9)))
def f_X9_widthAgain (N : Nat) (C : kS) (a1 : Int32) : Option (Int32 × kS) := (f_X9_laysNow N C).bind (fun C2 => if a1 < 0 then some ((-11), C2) else if a1 < (C2 0 14) then jn (fun (x5 : Int32) => gIn x5 40 (gIn x5 40 (some ((C2 10 x5.toNatClampNeg) + (C2 8 x5.toNatClampNeg), C2)))) (fun k55_5 => lp_X9_widthAgain_23 N a1 C2 k55_5 N 0 0) else some ((-11), C2))
theorem hd_X9_widthAgain : kHd yX9_widthAgain 1 := by decide +kernel
set_option maxHeartbeats 4000000 in
set_option maxRecDepth 100000 in
theorem lt_X9_widthAgain_23 {g : kG} {cI cS : ClassId} {am : Nat → Nat} (X : Kx g cI cS cX9_widthAgain RX9 wsX9_widthAgain 4 rm_X9_widthAgain) {r : Int32} {Cr : kS} (hI : kInj 11 am) (Y : Kw g (WM cI am) (kAd 11 am)) (hR : kRI g (WM cI am) 4 cX9_widthAgain .int Cr r) (N : Nat) (a1 : Int32) (C2 : kS)  (k55_5 : Int32 → Option (Int32 × kS)) (hk55_5 : ∀ (x5 : Int32), k55_5 x5 = some (r, Cr) → J g (WM cI am) 4 C2 55 [some (.ref (am 0)), some (.int a1), some (.int x5), none] []) : ∀ (n : Nat) (x9 : Int32) (x10 : Int32), lp_X9_widthAgain_23 N a1 C2 k55_5 n x9 x10 = some (r, Cr) → J g (WM cI am) 4 C2 23 [some (.ref (am 0)), some (.int a1), some (.int x9), some (.int x10)] [] := by
  intro n
  induction n with
  | zero =>
    intro x9 x10 hf
    rw [lp_X9_widthAgain_23] at hf
    cases hf
  | succ n ih =>
    intro x9 x10 hf
    rw [lp_X9_widthAgain_23] at hf
    refine j_iload_n (pc := 23) X dX9_widthAgain_23 rfl ?_
    refine j_aload_n (pc := 24) X dX9_widthAgain_24 rfl ?_
    refine j_get (pc := 25) X iw_X9_widthAgain_X9 wm0 rfl 0 (Nat.le_of_ble_eq_true rfl) lk_X9_widthAgain_1 (v := .ref (am 1)) rfl dX9_widthAgain_25 ?_
    refine j_iconst (pc := 28) X dX9_widthAgain_28 kc_0 ?_
    obtain ⟨b11, hf⟩ := gIn_s hf
    refine j_iald (pc := 29) X wm1 b11 dX9_widthAgain_29 ?_
    refine j_icmp_ge (tgt := 55) (pc := 30) X dX9_widthAgain_30 rfl (fun c12 => ?_) (fun c12 => ?_)
    · have hf := kT c12 hf
      refine j_weak (lv' := [some (.ref (am 0)), some (.int a1), some (.int x9), none]) (And.intro rfl (And.intro rfl (And.intro rfl trivial))) ?_
      exact hk55_5 _ hf
    · have hf := kF c12 hf
      refine j_aload_n (pc := 33) X dX9_widthAgain_33 rfl ?_
      refine j_get (pc := 34) X iw_X9_widthAgain_X9 wm0 rfl 12 (Nat.le_of_ble_eq_true rfl) lk_X9_widthAgain_2 (v := .ref (am 9)) rfl dX9_widthAgain_34 ?_
      refine j_iload_n (pc := 37) X dX9_widthAgain_37 rfl ?_
      obtain ⟨b13, hf⟩ := gIn_s hf
      refine j_iald (pc := 38) X wm9 b13 dX9_widthAgain_38 ?_
      refine j_iload_n (pc := 39) X dX9_widthAgain_39 rfl ?_
      obtain ⟨j48_14, ej48_14, hf⟩ := jn_s hf
      have hj48_14 : ∀ (t14 : Int32), j48_14 t14 = some (r, Cr) → J g (WM cI am) 4 C2 48 [some (.ref (am 0)), some (.int a1), some (.int x9), some (.int x10)] [.int t14] := by
        intro t14 hf
        have hf := jE1 ej48_14 hf
        refine j_istore_n (pc := 48) X dX9_widthAgain_48 (Nat.le_of_ble_eq_true rfl) (lv' := [some (.ref (am 0)), some (.int a1), some (.int t14), some (.int x10)]) rfl ?_
        refine j_iinc (pc := 49) X dX9_widthAgain_49 rfl (v := x10 + 1) (by rw [kc_1]) (Nat.le_of_ble_eq_true rfl) (lv' := [some (.ref (am 0)), some (.int a1), some (.int t14), some (.int (x10 + 1))]) rfl ?_
        refine j_goto (tgt := 23) (pc := 52) X dX9_widthAgain_52 rfl ?_
        exact ih _ _ hf
      refine j_icmp_ne (tgt := 47) (pc := 40) X dX9_widthAgain_40 rfl (fun c16 => ?_) (fun c16 => ?_)
      · have hf := kF c16 hf
        refine j_iload_n (pc := 47) X dX9_widthAgain_47 rfl ?_
        exact hj48_14 _ hf
      · have hf := kT c16 hf
        refine j_iload_n (pc := 43) X dX9_widthAgain_43 rfl ?_
        refine j_goto (tgt := 48) (pc := 44) X dX9_widthAgain_44 rfl ?_
        exact hj48_14 _ hf
set_option maxHeartbeats 4000000 in
set_option maxRecDepth 100000 in
theorem t_X9_widthAgain {g : kG} {cI cS : ClassId} {am : Nat → Nat} (X : Kx g cI cS cX9_widthAgain RX9 wsX9_widthAgain 4 rm_X9_widthAgain) {r : Int32} {Cr : kS} (hI : kInj 11 am) (Y : Kw g (WM cI am) (kAd 11 am)) (hR : kRI g (WM cI am) 4 cX9_widthAgain .int Cr r) (N : Nat) (C : kS) (a1 : Int32)  (hf : f_X9_widthAgain N C a1 = some (r, Cr)) : J g (WM cI am) 4 C 0 [some (.ref (am 0)), some (.int a1), none, none] [] := by
  unfold f_X9_widthAgain at hf
  refine j_aload_n (pc := 0) X dX9_widthAgain_0 rfl ?_
  obtain ⟨C2, h1, hf⟩ := kB hf
  refine j_callV (pc := 1) X Y (c_X9_laysNow hI N C  h1) gX9_widthAgain_X9_laysNow rfl ⟨rfl, rfl⟩ rfl hd_X9_laysNow ⟨(Nat.le_of_ble_eq_true rfl), (Nat.le_of_ble_eq_true rfl)⟩ wm0 rfl rfl rfl (Nat.le_of_ble_eq_true rfl) rfl dX9_widthAgain_1 ?_
  refine j_iload_n (pc := 4) X dX9_widthAgain_4 rfl ?_
  refine j_if_lt (tgt := 16) (pc := 5) X dX9_widthAgain_5 rfl (fun c3 => ?_) (fun c3 => ?_)
  · have hf := kT c3 hf
    refine j_bipush (pc := 16) X dX9_widthAgain_16 kb_m11 ?_
    exact j_retW hR dX9_widthAgain_18 hf
  · have hf := kF c3 hf
    refine j_iload_n (pc := 8) X dX9_widthAgain_8 rfl ?_
    refine j_aload_n (pc := 9) X dX9_widthAgain_9 rfl ?_
    refine j_get (pc := 10) X iw_X9_widthAgain_X9 wm0 rfl 14 (Nat.le_of_ble_eq_true rfl) lk_X9_widthAgain_0 (v := .int (C2 0 14)) rfl dX9_widthAgain_10 ?_
    refine j_icmp_lt (tgt := 19) (pc := 13) X dX9_widthAgain_13 rfl (fun c4 => ?_) (fun c4 => ?_)
    · have hf := kT c4 hf
      refine j_iconst (pc := 19) X dX9_widthAgain_19 kc_0 ?_
      refine j_istore_n (pc := 20) X dX9_widthAgain_20 (Nat.le_of_ble_eq_true rfl) (lv' := [some (.ref (am 0)), some (.int a1), some (.int 0), none]) rfl ?_
      refine j_iconst (pc := 21) X dX9_widthAgain_21 kc_0 ?_
      refine j_istore_n (pc := 22) X dX9_widthAgain_22 (Nat.le_of_ble_eq_true rfl) (lv' := [some (.ref (am 0)), some (.int a1), some (.int 0), some (.int 0)]) rfl ?_
      obtain ⟨k55_5, ek55_5, hf⟩ := jn_s hf
      have hk55_5 : ∀ (x5 : Int32), k55_5 x5 = some (r, Cr) → J g (WM cI am) 4 C2 55 [some (.ref (am 0)), some (.int a1), some (.int x5), none] [] := by
        intro x5 hf
        have hf := jE1 ek55_5 hf
        refine j_aload_n (pc := 55) X dX9_widthAgain_55 rfl ?_
        refine j_get (pc := 56) X iw_X9_widthAgain_X9 wm0 rfl 13 (Nat.le_of_ble_eq_true rfl) lk_X9_widthAgain_3 (v := .ref (am 10)) rfl dX9_widthAgain_56 ?_
        refine j_iload_n (pc := 59) X dX9_widthAgain_59 rfl ?_
        obtain ⟨b7, hf⟩ := gIn_s hf
        refine j_iald (pc := 60) X wm10 b7 dX9_widthAgain_60 ?_
        refine j_aload_n (pc := 61) X dX9_widthAgain_61 rfl ?_
        refine j_get (pc := 62) X iw_X9_widthAgain_X9 wm0 rfl 11 (Nat.le_of_ble_eq_true rfl) lk_X9_widthAgain_4 (v := .ref (am 8)) rfl dX9_widthAgain_62 ?_
        refine j_iload_n (pc := 65) X dX9_widthAgain_65 rfl ?_
        obtain ⟨b8, hf⟩ := gIn_s hf
        refine j_iald (pc := 66) X wm8 b8 dX9_widthAgain_66 ?_
        refine j_iadd (pc := 67) X dX9_widthAgain_67 ?_
        exact j_retW hR dX9_widthAgain_68 hf
      exact lt_X9_widthAgain_23 X hI Y hR N a1 C2   k55_5 hk55_5 N _ _ hf
    · have hf := kF c4 hf
      refine j_bipush (pc := 16) X dX9_widthAgain_16 kb_m11 ?_
      exact j_retW hR dX9_widthAgain_18 hf
theorem c_X9_widthAgain {l : Launch} {D : va_G} {cI cS : ClassId} {am : Nat → Nat} (hI : kInj 11 am) (N : Nat) (C : kS) (a1 : Int32) {r : Int32} {Cr : kS} (hf : f_X9_widthAgain N C a1 = some (r, Cr)) : mW l yX9_widthAgain wsX9_widthAgain rm_X9_widthAgain D cI cS (WM cI am) (kAd 11 am) C [.ref (am 0), .int a1] r Cr :=
  mW.of (by decide) rfl rfl (Nat.le_of_ble_eq_true rfl) (WM_D hI) (fun g X Y hR => t_X9_widthAgain X hI Y hR N C a1  hf)
