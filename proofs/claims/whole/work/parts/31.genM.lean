abbrev rm_X9_isForm : Room := { frames := 3, cells := 0, slots := 0, locals := 64 }
theorem lk_X9_isForm_0 : Cond.fieldLink RX9 7 "BlackBarsModel" "s" "[I" ∈ wsX9_isForm := List.mem_of_getElem? (i := 1) rfl
theorem iw_X9_isForm_X9 : ∀ w ∈ wsX90, w ∈ wsX9_isForm := fun _ h => List.mem_cons_of_mem _ (List.mem_append_right _ h)
def lp_X9_isForm_32 (N : Nat) (C : kS) (a1 : Int32) (a2 : Int32) (k82_6 : Int32 → Option (Int32)) : Nat → Int32 → Int32 → Option (Int32)
  | 0, _, _ => none
  | n + 1, x8, x9 => gIn (34 + (13 * a1)) 642 (if (C 1 (34 + (13 * a1)).toNatClampNeg) ≤ x9 then k82_6 x8 else if x8 = 0 then k82_6 x8 else gIn (((34 + (13 * a1)) + 1) + x9) 642 ((f_X9_letterOf N C a2 x9).bind (fun r15 => jn (fun (t16 : Int32) => lp_X9_isForm_32 N C a1 a2 k82_6 n t16 (x9 + 1)) (fun j74_16 => if (C 1 (((34 + (13 * a1)) + 1) + x9).toNatClampNeg) = r15 then j74_16 1 else j74_16 0))))
def f_X9_isForm (N : Nat) (C : kS) (a1 : Int32) (a2 : Int32) : Option (Int32) := gIn (34 + (13 * a1)) 642 ((f_X9_lettersOf N C a2).bind (fun r3 => jn (fun (t4 : Int32) => jn (fun (x6 : Int32) => some (x6 &&& 1)) (fun k82_6 => lp_X9_isForm_32 N C a1 a2 k82_6 N t4 0)) (fun j27_4 => if (C 1 (34 + (13 * a1)).toNatClampNeg) = r3 then j27_4 1 else j27_4 0)))
theorem hd_X9_isForm : kHd yX9_isForm 2 := by decide +kernel
set_option maxHeartbeats 4000000 in
set_option maxRecDepth 100000 in
theorem lt_X9_isForm_32 {g : kG} {cI cS : ClassId} {am : Nat → Nat} {C : kS} (X : Kx g cI cS cX9_isForm RX9 wsX9_isForm 6 rm_X9_isForm) {r : Int32} (hR : kRI g (WM cI am) 6 cX9_isForm .boolean C r) (N : Nat) (a1 : Int32) (a2 : Int32)  (k82_6 : Int32 → Option (Int32)) (hk82_6 : ∀ (x6 : Int32), k82_6 x6 = some r → J g (WM cI am) 6 C 82 [some (.ref (am 0)), some (.int a1), some (.int a2), some (.int (34 + (13 * a1))), some (.int x6), none] []) : ∀ (n : Nat) (x8 : Int32) (x9 : Int32), lp_X9_isForm_32 N C a1 a2 k82_6 n x8 x9 = some r → J g (WM cI am) 6 C 32 [some (.ref (am 0)), some (.int a1), some (.int a2), some (.int (34 + (13 * a1))), some (.int x8), some (.int x9)] [] := by
  intro n
  induction n with
  | zero =>
    intro x8 x9 hf
    rw [lp_X9_isForm_32] at hf
    cases hf
  | succ n ih =>
    intro x8 x9 hf
    rw [lp_X9_isForm_32] at hf
    refine j_iload (pc := 32) X dX9_isForm_32 rfl ?_
    refine j_aload_n (pc := 34) X dX9_isForm_34 rfl ?_
    refine j_get (pc := 35) X iw_X9_isForm_X9 wm0 rfl 0 (Nat.le_of_ble_eq_true rfl) lk_X9_isForm_0 (v := .ref (am 1)) rfl dX9_isForm_35 ?_
    refine j_iload_n (pc := 38) X dX9_isForm_38 rfl ?_
    obtain ⟨b10, hf⟩ := gIn_s hf
    refine j_iald (pc := 39) X wm1 b10 dX9_isForm_39 ?_
    refine j_icmp_ge (tgt := 82) (pc := 40) X dX9_isForm_40 rfl (fun c11 => ?_) (fun c11 => ?_)
    · have hf := kT c11 hf
      refine j_weak (lv' := [some (.ref (am 0)), some (.int a1), some (.int a2), some (.int (34 + (13 * a1))), some (.int x8), none]) (And.intro rfl (And.intro rfl (And.intro rfl (And.intro rfl (And.intro rfl trivial))))) ?_
      exact hk82_6 _ hf
    · have hf := kF c11 hf
      refine j_iload (pc := 43) X dX9_isForm_43 rfl ?_
      refine j_if_eq (tgt := 82) (pc := 45) X dX9_isForm_45 rfl (fun c12 => ?_) (fun c12 => ?_)
      · have hf := kT c12 hf
        refine j_weak (lv' := [some (.ref (am 0)), some (.int a1), some (.int a2), some (.int (34 + (13 * a1))), some (.int x8), none]) (And.intro rfl (And.intro rfl (And.intro rfl (And.intro rfl (And.intro rfl trivial))))) ?_
        exact hk82_6 _ hf
      · have hf := kF c12 hf
        refine j_aload_n (pc := 48) X dX9_isForm_48 rfl ?_
        refine j_get (pc := 49) X iw_X9_isForm_X9 wm0 rfl 0 (Nat.le_of_ble_eq_true rfl) lk_X9_isForm_0 (v := .ref (am 1)) rfl dX9_isForm_49 ?_
        refine j_iload_n (pc := 52) X dX9_isForm_52 rfl ?_
        refine j_iconst (pc := 53) X dX9_isForm_53 kc_1 ?_
        refine j_iadd (pc := 54) X dX9_isForm_54 ?_
        refine j_iload (pc := 55) X dX9_isForm_55 rfl ?_
        refine j_iadd (pc := 57) X dX9_isForm_57 ?_
        obtain ⟨b13, hf⟩ := gIn_s hf
        refine j_iald (pc := 58) X wm1 b13 dX9_isForm_58 ?_
        refine j_aload_n (pc := 59) X dX9_isForm_59 rfl ?_
        refine j_iload_n (pc := 60) X dX9_isForm_60 rfl ?_
        refine j_iload (pc := 61) X dX9_isForm_61 rfl ?_
        obtain ⟨r15, h14, hf⟩ := kB hf
        refine j_callI (pc := 63) X (c_X9_letterOf N C a2 x9 h14) gX9_isForm_X9_letterOf rfl ⟨rfl, rfl⟩ rfl hd_X9_letterOf ⟨(Nat.le_of_ble_eq_true rfl), (Nat.le_of_ble_eq_true rfl)⟩ wm0 rfl rfl rfl (Nat.le_of_ble_eq_true rfl) rfl dX9_isForm_63 ?_
        obtain ⟨j74_16, ej74_16, hf⟩ := jn_s hf
        have hj74_16 : ∀ (t16 : Int32), j74_16 t16 = some r → J g (WM cI am) 6 C 74 [some (.ref (am 0)), some (.int a1), some (.int a2), some (.int (34 + (13 * a1))), some (.int x8), some (.int x9)] [.int t16] := by
          intro t16 hf
          have hf := jE1 ej74_16 hf
          refine j_istore (pc := 74) X dX9_isForm_74 (Nat.le_of_ble_eq_true rfl) (lv' := [some (.ref (am 0)), some (.int a1), some (.int a2), some (.int (34 + (13 * a1))), some (.int t16), some (.int x9)]) rfl ?_
          refine j_iinc (pc := 76) X dX9_isForm_76 rfl (v := x9 + 1) (by rw [kc_1]) (Nat.le_of_ble_eq_true rfl) (lv' := [some (.ref (am 0)), some (.int a1), some (.int a2), some (.int (34 + (13 * a1))), some (.int t16), some (.int (x9 + 1))]) rfl ?_
          refine j_goto (tgt := 32) (pc := 79) X dX9_isForm_79 rfl ?_
          exact ih _ _ hf
        refine j_icmp_ne (tgt := 73) (pc := 66) X dX9_isForm_66 rfl (fun c18 => ?_) (fun c18 => ?_)
        · have hf := kF c18 hf
          refine j_iconst (pc := 73) X dX9_isForm_73 kc_0 ?_
          exact hj74_16 _ hf
        · have hf := kT c18 hf
          refine j_iconst (pc := 69) X dX9_isForm_69 kc_1 ?_
          refine j_goto (tgt := 74) (pc := 70) X dX9_isForm_70 rfl ?_
          exact hj74_16 _ hf
set_option maxHeartbeats 4000000 in
set_option maxRecDepth 100000 in
theorem t_X9_isForm {g : kG} {cI cS : ClassId} {am : Nat → Nat} {C : kS} (X : Kx g cI cS cX9_isForm RX9 wsX9_isForm 6 rm_X9_isForm) {r : Int32} (hR : kRI g (WM cI am) 6 cX9_isForm .boolean C r) (N : Nat) (a1 : Int32) (a2 : Int32)  (hf : f_X9_isForm N C a1 a2 = some r) : J g (WM cI am) 6 C 0 [some (.ref (am 0)), some (.int a1), some (.int a2), none, none, none] [] := by
  unfold f_X9_isForm at hf
  refine j_bipush (pc := 0) X dX9_isForm_0 kb_34 ?_
  refine j_bipush (pc := 2) X dX9_isForm_2 kb_13 ?_
  refine j_iload_n (pc := 4) X dX9_isForm_4 rfl ?_
  refine j_imul (pc := 5) X dX9_isForm_5 ?_
  refine j_iadd (pc := 6) X dX9_isForm_6 ?_
  refine j_istore_n (pc := 7) X dX9_isForm_7 (Nat.le_of_ble_eq_true rfl) (lv' := [some (.ref (am 0)), some (.int a1), some (.int a2), some (.int (34 + (13 * a1))), none, none]) rfl ?_
  refine j_aload_n (pc := 8) X dX9_isForm_8 rfl ?_
  refine j_get (pc := 9) X iw_X9_isForm_X9 wm0 rfl 0 (Nat.le_of_ble_eq_true rfl) lk_X9_isForm_0 (v := .ref (am 1)) rfl dX9_isForm_9 ?_
  refine j_iload_n (pc := 12) X dX9_isForm_12 rfl ?_
  obtain ⟨b1, hf⟩ := gIn_s hf
  refine j_iald (pc := 13) X wm1 b1 dX9_isForm_13 ?_
  refine j_aload_n (pc := 14) X dX9_isForm_14 rfl ?_
  refine j_iload_n (pc := 15) X dX9_isForm_15 rfl ?_
  obtain ⟨r3, h2, hf⟩ := kB hf
  refine j_callI (pc := 16) X (c_X9_lettersOf N C a2 h2) gX9_isForm_X9_lettersOf rfl ⟨rfl, rfl⟩ rfl hd_X9_lettersOf ⟨(Nat.le_of_ble_eq_true rfl), (Nat.le_of_ble_eq_true rfl)⟩ wm0 rfl rfl rfl (Nat.le_of_ble_eq_true rfl) rfl dX9_isForm_16 ?_
  obtain ⟨j27_4, ej27_4, hf⟩ := jn_s hf
  have hj27_4 : ∀ (t4 : Int32), j27_4 t4 = some r → J g (WM cI am) 6 C 27 [some (.ref (am 0)), some (.int a1), some (.int a2), some (.int (34 + (13 * a1))), none, none] [.int t4] := by
    intro t4 hf
    have hf := jE1 ej27_4 hf
    refine j_istore (pc := 27) X dX9_isForm_27 (Nat.le_of_ble_eq_true rfl) (lv' := [some (.ref (am 0)), some (.int a1), some (.int a2), some (.int (34 + (13 * a1))), some (.int t4), none]) rfl ?_
    refine j_iconst (pc := 29) X dX9_isForm_29 kc_0 ?_
    refine j_istore (pc := 30) X dX9_isForm_30 (Nat.le_of_ble_eq_true rfl) (lv' := [some (.ref (am 0)), some (.int a1), some (.int a2), some (.int (34 + (13 * a1))), some (.int t4), some (.int 0)]) rfl ?_
    obtain ⟨k82_6, ek82_6, hf⟩ := jn_s hf
    have hk82_6 : ∀ (x6 : Int32), k82_6 x6 = some r → J g (WM cI am) 6 C 82 [some (.ref (am 0)), some (.int a1), some (.int a2), some (.int (34 + (13 * a1))), some (.int x6), none] [] := by
      intro x6 hf
      have hf := jE1 ek82_6 hf
      refine j_iload (pc := 82) X dX9_isForm_82 rfl ?_
      exact j_retB hR dX9_isForm_84 hf
    exact lt_X9_isForm_32 X hR N a1 a2    k82_6 hk82_6 N _ _ hf
  refine j_icmp_ne (tgt := 26) (pc := 19) X dX9_isForm_19 rfl (fun c19 => ?_) (fun c19 => ?_)
  · have hf := kF c19 hf
    refine j_iconst (pc := 26) X dX9_isForm_26 kc_0 ?_
    exact hj27_4 _ hf
  · have hf := kT c19 hf
    refine j_iconst (pc := 22) X dX9_isForm_22 kc_1 ?_
    refine j_goto (tgt := 27) (pc := 23) X dX9_isForm_23 rfl ?_
    exact hj27_4 _ hf
theorem c_X9_isForm {l : Launch} {D : va_G} {cI cS : ClassId} {am : Nat → Nat} (N : Nat) (C : kS) (a1 : Int32) (a2 : Int32) {r : Int32} (hf : f_X9_isForm N C a1 a2 = some r) : mI l yX9_isForm wsX9_isForm rm_X9_isForm D cI cS (WM cI am) C [.ref (am 0), .int a1, .int a2] r :=
  mI.of (by decide) rfl rfl (Nat.le_of_ble_eq_true rfl) (fun g X hR => t_X9_isForm X  hR N a1 a2  hf)
abbrev rm_X9_lays : Room := { frames := 4, cells := 0, slots := 0, locals := 89 }
theorem lk_X9_lays_0 : Cond.fieldLink RX9 116 "BlackBarsModel" "lines" "I" ∈ wsX9_lays := List.mem_of_getElem? (i := 1) rfl
theorem iw_X9_lays_X9 : ∀ w ∈ wsX90, w ∈ wsX9_lays := fun _ h => List.mem_cons_of_mem _ (List.mem_append_right _ h)
theorem lk_X9_lays_1 : Cond.fieldLink RX9 7 "BlackBarsModel" "s" "[I" ∈ wsX9_lays := List.mem_of_getElem? (i := 2) rfl
theorem lk_X9_lays_2 : Cond.fieldLink RX9 28 "BlackBarsModel" "formOf" "[I" ∈ wsX9_lays := List.mem_of_getElem? (i := 3) rfl
theorem lk_X9_lays_3 : Cond.fieldLink RX9 93 "BlackBarsModel" "forms" "I" ∈ wsX9_lays := List.mem_of_getElem? (i := 4) rfl
theorem lk_X9_lays_4 : Cond.fieldLink RX9 31 "BlackBarsModel" "shown" "[I" ∈ wsX9_lays := List.mem_of_getElem? (i := 5) rfl
theorem lk_X9_lays_6 : Cond.fieldLink RX9 34 "BlackBarsModel" "lineOf" "[I" ∈ wsX9_lays := List.mem_of_getElem? (i := 7) rfl
theorem lk_X9_lays_7 : Cond.fieldLink RX9 37 "BlackBarsModel" "placeOf" "[I" ∈ wsX9_lays := List.mem_of_getElem? (i := 8) rfl
theorem lk_X9_lays_5 : Cond.fieldLink RX9 22 "BlackBarsModel" "barWidth" "[I" ∈ wsX9_lays := List.mem_of_getElem? (i := 6) rfl
def lp_X9_lays_43 (N : Nat) (x7 : Int32) (k84_13 : kS → Option (kS)) : Nat → Int32 → kS → Option (kS)
  | 0, _, _ => none
  | n + 1, x41, C42 => if x41 < 0 then k84_13 C42 else (f_X9_isForm N C42 x7 x41).bind (fun r45 => jn (fun (t46 : Int32) => gIn x7 40 (jn (up1 C42 7 (upd (C42 7) (x7.toNatClampNeg) t46)) (fun C49 : kS => lp_X9_lays_43 N x7 k84_13 n (x41 + (-1)) C49))) (fun j77_46 => if r45 = 0 then gIn x7 40 (j77_46 (C42 7 x7.toNatClampNeg)) else j77_46 x41))
def lp_X9_lays_16 (N : Nat) (k209_4 : kS → Option (kS)) : Nat → Int32 → Int32 → kS → Option (kS)
  | 0, _, _, _ => none
  | n + 1, x6, x7, C8 => gIn 0 642 (if (C8 1 (0 : Int32).toNatClampNeg) ≤ x7 then k209_4 C8 else gIn x7 40 (jn (up1 C8 7 (upd (C8 7) (x7.toNatClampNeg) (-1))) (fun C12 : kS => jn (fun (C13 : kS) => gIn x7 40 (jn (fun (t16 : Int32) => gIn x7 40 (jn (up1 C13 8 (upd (C13 8) (x7.toNatClampNeg) t16)) (fun C19 : kS => jn (fun (x20 : Int32) (C21 : kS) => gIn x7 40 (jn (up1 C21 9 (upd (C21 9) (x7.toNatClampNeg) ((C21 0 14) - 1))) (fun C24 : kS => gIn x7 40 (jn (up1 C24 10 (upd (C24 10) (x7.toNatClampNeg) x20)) (fun C26 : kS => gIn x7 40 (gIn 6 642 (jn (x20 + ((C26 8 x7.toNatClampNeg) + (C26 1 (6 : Int32).toNatClampNeg))) (fun x29 : Int32 => lp_X9_lays_16 N k209_4 n x29 (x7 + 1) C26)))))))) (fun j164_21 => jn (jn (up1 C19 0 (upd (C19 0) 14 ((C19 0 14) + 1))) (fun C31 : kS => j164_21 0 C31)) (fun j152_29 => if x7 = 0 then j152_29 else gIn x7 40 (gIn 7 642 (if (x6 + (C19 8 x7.toNatClampNeg)) ≤ (C19 1 (7 : Int32).toNatClampNeg) then j164_21 x6 C19 else j152_29))))))) (fun j127_16 => if 0 ≤ (C13 7 x7.toNatClampNeg) then gIn x7 40 (gIn (C13 7 x7.toNatClampNeg) 40 (j127_16 (C13 5 (C13 7 x7.toNatClampNeg).toNatClampNeg))) else (f_X9_widthAt N C13 (34 + (13 * x7))).bind (fun r40 => j127_16 r40)))) (fun k84_13 => lp_X9_lays_43 N x7 k84_13 N ((C12 0 9) - 1) C12))))
def f_X9_lays (N : Nat) (C : kS) (a1 : Int32) (a2 : Int32) : Option (kS) := (f_X9_bars N C a1 a2).bind (fun C2 => jn (up1 C2 0 (upd (C2 0) 14 0)) (fun C3 : kS => jn (fun (C4 : kS) => some C4) (fun k209_4 => lp_X9_lays_16 N k209_4 N 0 0 C3)))
theorem hd_X9_lays : kHd yX9_lays 2 := by decide +kernel
set_option maxHeartbeats 4000000 in
set_option maxRecDepth 100000 in
theorem lt_X9_lays_43 {g : kG} {cI cS : ClassId} {am : Nat → Nat} (X : Kx g cI cS cX9_lays RX9 wsX9_lays 6 rm_X9_lays) {Cr : kS} (hI : kInj 11 am) (Y : Kw g (WM cI am) (kAd 11 am)) (hR : kRV g (WM cI am) 6 cX9_lays Cr) (N : Nat) (a1 : Int32) (a2 : Int32) (x6 : Int32) (x7 : Int32)  (k84_13 : kS → Option (kS)) (hk84_13 : ∀ (C13 : kS), k84_13 C13 = some Cr → J g (WM cI am) 6 C13 84 [some (.ref (am 0)), some (.int a1), some (.int a2), some (.int x6), some (.int x7), none] []) : ∀ (n : Nat) (x41 : Int32) (C42 : kS), lp_X9_lays_43 N x7 k84_13 n x41 C42 = some Cr → J g (WM cI am) 6 C42 43 [some (.ref (am 0)), some (.int a1), some (.int a2), some (.int x6), some (.int x7), some (.int x41)] [] := by
  intro n
  induction n with
  | zero =>
    intro x41 C42 hf
    rw [lp_X9_lays_43] at hf
    cases hf
  | succ n ih =>
    intro x41 C42 hf
    rw [lp_X9_lays_43] at hf
    refine j_iload (pc := 43) X dX9_lays_43 rfl ?_
    refine j_if_lt (tgt := 84) (pc := 45) X dX9_lays_45 rfl (fun c43 => ?_) (fun c43 => ?_)
    · have hf := kT c43 hf
      refine j_weak (lv' := [some (.ref (am 0)), some (.int a1), some (.int a2), some (.int x6), some (.int x7), none]) (And.intro rfl (And.intro rfl (And.intro rfl (And.intro rfl (And.intro rfl trivial))))) ?_
      exact hk84_13 _ hf
    · have hf := kF c43 hf
      refine j_aload_n (pc := 48) X dX9_lays_48 rfl ?_
      refine j_get (pc := 49) X iw_X9_lays_X9 wm0 rfl 10 (Nat.le_of_ble_eq_true rfl) lk_X9_lays_2 (v := .ref (am 7)) rfl dX9_lays_49 ?_
      refine j_iload (pc := 52) X dX9_lays_52 rfl ?_
      refine j_aload_n (pc := 54) X dX9_lays_54 rfl ?_
      refine j_iload (pc := 55) X dX9_lays_55 rfl ?_
      refine j_iload (pc := 57) X dX9_lays_57 rfl ?_
      obtain ⟨r45, h44, hf⟩ := kB hf
      refine j_callI (pc := 59) X (c_X9_isForm N C42 x7 x41 h44) gX9_lays_X9_isForm rfl ⟨rfl, rfl⟩ rfl hd_X9_isForm ⟨(Nat.le_of_ble_eq_true rfl), (Nat.le_of_ble_eq_true rfl)⟩ wm0 rfl rfl rfl (Nat.le_of_ble_eq_true rfl) rfl dX9_lays_59 ?_
      obtain ⟨j77_46, ej77_46, hf⟩ := jn_s hf
      have hj77_46 : ∀ (t46 : Int32), j77_46 t46 = some Cr → J g (WM cI am) 6 C42 77 [some (.ref (am 0)), some (.int a1), some (.int a2), some (.int x6), some (.int x7), some (.int x41)] [.int t46, .int x7, .ref (am 7)] := by
        intro t46 hf
        have hf := jE1 ej77_46 hf
        obtain ⟨b48, hf⟩ := gIn_s hf
        obtain ⟨C49, eC49, hf⟩ := jn_s hf
        refine j_iast (C' := C49) (pc := 77) X Y wm7 b48 dX9_lays_77 (by rw [eC49]; exact sm7 _) ?_
        refine j_iinc (pc := 78) X dX9_lays_78 rfl (v := x41 + (-1)) (by rw [kc_m1]) (Nat.le_of_ble_eq_true rfl) (lv' := [some (.ref (am 0)), some (.int a1), some (.int a2), some (.int x6), some (.int x7), some (.int (x41 + (-1)))]) rfl ?_
        refine j_goto (tgt := 43) (pc := 81) X dX9_lays_81 rfl ?_
        exact ih _ _ hf
      refine j_if_eq (tgt := 70) (pc := 62) X dX9_lays_62 rfl (fun c50 => ?_) (fun c50 => ?_)
      · have hf := kT c50 hf
        refine j_aload_n (pc := 70) X dX9_lays_70 rfl ?_
        refine j_get (pc := 71) X iw_X9_lays_X9 wm0 rfl 10 (Nat.le_of_ble_eq_true rfl) lk_X9_lays_2 (v := .ref (am 7)) rfl dX9_lays_71 ?_
        refine j_iload (pc := 74) X dX9_lays_74 rfl ?_
        obtain ⟨b51, hf⟩ := gIn_s hf
        refine j_iald (pc := 76) X wm7 b51 dX9_lays_76 ?_
        exact hj77_46 _ hf
      · have hf := kF c50 hf
        refine j_iload (pc := 65) X dX9_lays_65 rfl ?_
        refine j_goto (tgt := 77) (pc := 67) X dX9_lays_67 rfl ?_
        exact hj77_46 _ hf
set_option maxHeartbeats 4000000 in
set_option maxRecDepth 100000 in
theorem lt_X9_lays_16 {g : kG} {cI cS : ClassId} {am : Nat → Nat} (X : Kx g cI cS cX9_lays RX9 wsX9_lays 6 rm_X9_lays) {Cr : kS} (hI : kInj 11 am) (Y : Kw g (WM cI am) (kAd 11 am)) (hR : kRV g (WM cI am) 6 cX9_lays Cr) (N : Nat) (a1 : Int32) (a2 : Int32)  (k209_4 : kS → Option (kS)) (hk209_4 : ∀ (C4 : kS), k209_4 C4 = some Cr → J g (WM cI am) 6 C4 209 [some (.ref (am 0)), some (.int a1), some (.int a2), none, none, none] []) : ∀ (n : Nat) (x6 : Int32) (x7 : Int32) (C8 : kS), lp_X9_lays_16 N k209_4 n x6 x7 C8 = some Cr → J g (WM cI am) 6 C8 16 [some (.ref (am 0)), some (.int a1), some (.int a2), some (.int x6), some (.int x7), none] [] := by
  intro n
  induction n with
  | zero =>
    intro x6 x7 C8 hf
    rw [lp_X9_lays_16] at hf
    cases hf
  | succ n ih =>
    intro x6 x7 C8 hf
    rw [lp_X9_lays_16] at hf
    refine j_iload (pc := 16) X dX9_lays_16 rfl ?_
    refine j_aload_n (pc := 18) X dX9_lays_18 rfl ?_
    refine j_get (pc := 19) X iw_X9_lays_X9 wm0 rfl 0 (Nat.le_of_ble_eq_true rfl) lk_X9_lays_1 (v := .ref (am 1)) rfl dX9_lays_19 ?_
    refine j_iconst (pc := 22) X dX9_lays_22 kc_0 ?_
    obtain ⟨b9, hf⟩ := gIn_s hf
    refine j_iald (pc := 23) X wm1 b9 dX9_lays_23 ?_
    refine j_icmp_ge (tgt := 209) (pc := 24) X dX9_lays_24 rfl (fun c10 => ?_) (fun c10 => ?_)
    · have hf := kT c10 hf
      refine j_weak (lv' := [some (.ref (am 0)), some (.int a1), some (.int a2), none, none, none]) (And.intro rfl (And.intro rfl (And.intro rfl trivial))) ?_
      exact hk209_4 _ hf
    · have hf := kF c10 hf
      refine j_aload_n (pc := 27) X dX9_lays_27 rfl ?_
      refine j_get (pc := 28) X iw_X9_lays_X9 wm0 rfl 10 (Nat.le_of_ble_eq_true rfl) lk_X9_lays_2 (v := .ref (am 7)) rfl dX9_lays_28 ?_
      refine j_iload (pc := 31) X dX9_lays_31 rfl ?_
      refine j_iconst (pc := 33) X dX9_lays_33 kc_m1 ?_
      obtain ⟨b11, hf⟩ := gIn_s hf
      obtain ⟨C12, eC12, hf⟩ := jn_s hf
      refine j_iast (C' := C12) (pc := 34) X Y wm7 b11 dX9_lays_34 (by rw [eC12]; exact sm7 _) ?_
      refine j_aload_n (pc := 35) X dX9_lays_35 rfl ?_
      refine j_get (pc := 36) X iw_X9_lays_X9 wm0 rfl 9 (Nat.le_of_ble_eq_true rfl) lk_X9_lays_3 (v := .int (C12 0 9)) rfl dX9_lays_36 ?_
      refine j_iconst (pc := 39) X dX9_lays_39 kc_1 ?_
      refine j_isub (pc := 40) X dX9_lays_40 ?_
      refine j_istore (pc := 41) X dX9_lays_41 (Nat.le_of_ble_eq_true rfl) (lv' := [some (.ref (am 0)), some (.int a1), some (.int a2), some (.int x6), some (.int x7), some (.int ((C12 0 9) - 1))]) rfl ?_
      obtain ⟨k84_13, ek84_13, hf⟩ := jn_s hf
      have hk84_13 : ∀ (C13 : kS), k84_13 C13 = some Cr → J g (WM cI am) 6 C13 84 [some (.ref (am 0)), some (.int a1), some (.int a2), some (.int x6), some (.int x7), none] [] := by
        intro C13 hf
        have hf := jE1 ek84_13 hf
        refine j_aload_n (pc := 84) X dX9_lays_84 rfl ?_
        refine j_get (pc := 85) X iw_X9_lays_X9 wm0 rfl 11 (Nat.le_of_ble_eq_true rfl) lk_X9_lays_4 (v := .ref (am 8)) rfl dX9_lays_85 ?_
        refine j_iload (pc := 88) X dX9_lays_88 rfl ?_
        refine j_aload_n (pc := 90) X dX9_lays_90 rfl ?_
        refine j_get (pc := 91) X iw_X9_lays_X9 wm0 rfl 10 (Nat.le_of_ble_eq_true rfl) lk_X9_lays_2 (v := .ref (am 7)) rfl dX9_lays_91 ?_
        refine j_iload (pc := 94) X dX9_lays_94 rfl ?_
        obtain ⟨b15, hf⟩ := gIn_s hf
        refine j_iald (pc := 96) X wm7 b15 dX9_lays_96 ?_
        obtain ⟨j127_16, ej127_16, hf⟩ := jn_s hf
        have hj127_16 : ∀ (t16 : Int32), j127_16 t16 = some Cr → J g (WM cI am) 6 C13 127 [some (.ref (am 0)), some (.int a1), some (.int a2), some (.int x6), some (.int x7), none] [.int t16, .int x7, .ref (am 8)] := by
          intro t16 hf
          have hf := jE1 ej127_16 hf
          obtain ⟨b18, hf⟩ := gIn_s hf
          obtain ⟨C19, eC19, hf⟩ := jn_s hf
          refine j_iast (C' := C19) (pc := 127) X Y wm8 b18 dX9_lays_127 (by rw [eC19]; exact sm8 _) ?_
          refine j_iload (pc := 128) X dX9_lays_128 rfl ?_
          obtain ⟨j164_21, ej164_21, hf⟩ := jn_s hf
          have hj164_21 : ∀ (x20 : Int32) (C21 : kS), j164_21 x20 C21 = some Cr → J g (WM cI am) 6 C21 164 [some (.ref (am 0)), some (.int a1), some (.int a2), some (.int x20), some (.int x7), none] [] := by
            intro x20 C21 hf
            have hf := jE2 ej164_21 hf
            refine j_aload_n (pc := 164) X dX9_lays_164 rfl ?_
            refine j_get (pc := 165) X iw_X9_lays_X9 wm0 rfl 12 (Nat.le_of_ble_eq_true rfl) lk_X9_lays_6 (v := .ref (am 9)) rfl dX9_lays_165 ?_
            refine j_iload (pc := 168) X dX9_lays_168 rfl ?_
            refine j_aload_n (pc := 170) X dX9_lays_170 rfl ?_
            refine j_get (pc := 171) X iw_X9_lays_X9 wm0 rfl 14 (Nat.le_of_ble_eq_true rfl) lk_X9_lays_0 (v := .int (C21 0 14)) rfl dX9_lays_171 ?_
            refine j_iconst (pc := 174) X dX9_lays_174 kc_1 ?_
            refine j_isub (pc := 175) X dX9_lays_175 ?_
            obtain ⟨b23, hf⟩ := gIn_s hf
            obtain ⟨C24, eC24, hf⟩ := jn_s hf
            refine j_iast (C' := C24) (pc := 176) X Y wm9 b23 dX9_lays_176 (by rw [eC24]; exact sm9 _) ?_
            refine j_aload_n (pc := 177) X dX9_lays_177 rfl ?_
            refine j_get (pc := 178) X iw_X9_lays_X9 wm0 rfl 13 (Nat.le_of_ble_eq_true rfl) lk_X9_lays_7 (v := .ref (am 10)) rfl dX9_lays_178 ?_
            refine j_iload (pc := 181) X dX9_lays_181 rfl ?_
            refine j_iload_n (pc := 183) X dX9_lays_183 rfl ?_
            obtain ⟨b25, hf⟩ := gIn_s hf
            obtain ⟨C26, eC26, hf⟩ := jn_s hf
            refine j_iast (C' := C26) (pc := 184) X Y wm10 b25 dX9_lays_184 (by rw [eC26]; exact sm10 _) ?_
            refine j_iload_n (pc := 185) X dX9_lays_185 rfl ?_
            refine j_aload_n (pc := 186) X dX9_lays_186 rfl ?_
            refine j_get (pc := 187) X iw_X9_lays_X9 wm0 rfl 11 (Nat.le_of_ble_eq_true rfl) lk_X9_lays_4 (v := .ref (am 8)) rfl dX9_lays_187 ?_
            refine j_iload (pc := 190) X dX9_lays_190 rfl ?_
            obtain ⟨b27, hf⟩ := gIn_s hf
            refine j_iald (pc := 192) X wm8 b27 dX9_lays_192 ?_
            refine j_aload_n (pc := 193) X dX9_lays_193 rfl ?_
            refine j_get (pc := 194) X iw_X9_lays_X9 wm0 rfl 0 (Nat.le_of_ble_eq_true rfl) lk_X9_lays_1 (v := .ref (am 1)) rfl dX9_lays_194 ?_
            refine j_bipush (pc := 197) X dX9_lays_197 kb_6 ?_
            obtain ⟨b28, hf⟩ := gIn_s hf
            refine j_iald (pc := 199) X wm1 b28 dX9_lays_199 ?_
            refine j_iadd (pc := 200) X dX9_lays_200 ?_
            refine j_iadd (pc := 201) X dX9_lays_201 ?_
            obtain ⟨x29, ex29, hf⟩ := jn_s hf
            refine j_istore_n (pc := 202) X dX9_lays_202 (Nat.le_of_ble_eq_true rfl) (lv' := [some (.ref (am 0)), some (.int a1), some (.int a2), some (.int x29), some (.int x7), none]) (by rw [ex29]; rfl) ?_
            refine j_iinc (pc := 203) X dX9_lays_203 rfl (v := x7 + 1) (by rw [kc_1]) (Nat.le_of_ble_eq_true rfl) (lv' := [some (.ref (am 0)), some (.int a1), some (.int a2), some (.int x29), some (.int (x7 + 1)), none]) rfl ?_
            refine j_goto (tgt := 16) (pc := 206) X dX9_lays_206 rfl ?_
            exact ih _ _ _ hf
          obtain ⟨j152_29, ej152_29, hf⟩ := jn_s hf
          have hj152_29 : ∀ (_ : Unit), j152_29 = some Cr → J g (WM cI am) 6 C19 152 [some (.ref (am 0)), some (.int a1), some (.int a2), some (.int x6), some (.int x7), none] [] := by
            intro _ hf
            have hf := jE0 ej152_29 hf
            refine j_aload_n (pc := 152) X dX9_lays_152 rfl ?_
            refine j_dup (pc := 153) X dX9_lays_153 rfl ?_
            refine j_get (pc := 154) X iw_X9_lays_X9 wm0 rfl 14 (Nat.le_of_ble_eq_true rfl) lk_X9_lays_0 (v := .int (C19 0 14)) rfl dX9_lays_154 ?_
            refine j_iconst (pc := 157) X dX9_lays_157 kc_1 ?_
            refine j_iadd (pc := 158) X dX9_lays_158 ?_
            obtain ⟨C31, eC31, hf⟩ := jn_s hf
            refine j_put (C' := C31) (pc := 159) X Y iw_X9_lays_X9 tyX9 tyX9_ok nmX9 wm0 rfl 14 (Nat.le_of_ble_eq_true rfl) lk_X9_lays_0 rfl (tyX9_ok 14 (Nat.le_of_ble_eq_true rfl)) (Nat.le_of_ble_eq_true rfl) dX9_lays_159 (by rw [eC31]; exact sm0_14 _) ?_
            refine j_iconst (pc := 162) X dX9_lays_162 kc_0 ?_
            refine j_istore_n (pc := 163) X dX9_lays_163 (Nat.le_of_ble_eq_true rfl) (lv' := [some (.ref (am 0)), some (.int a1), some (.int a2), some (.int 0), some (.int x7), none]) rfl ?_
            exact hj164_21 _ _ hf
          refine j_if_eq (tgt := 152) (pc := 130) X dX9_lays_130 rfl (fun c32 => ?_) (fun c32 => ?_)
          · have hf := kT c32 hf
            exact hj152_29 () hf
          · have hf := kF c32 hf
            refine j_iload_n (pc := 133) X dX9_lays_133 rfl ?_
            refine j_aload_n (pc := 134) X dX9_lays_134 rfl ?_
            refine j_get (pc := 135) X iw_X9_lays_X9 wm0 rfl 11 (Nat.le_of_ble_eq_true rfl) lk_X9_lays_4 (v := .ref (am 8)) rfl dX9_lays_135 ?_
            refine j_iload (pc := 138) X dX9_lays_138 rfl ?_
            obtain ⟨b33, hf⟩ := gIn_s hf
            refine j_iald (pc := 140) X wm8 b33 dX9_lays_140 ?_
            refine j_iadd (pc := 141) X dX9_lays_141 ?_
            refine j_aload_n (pc := 142) X dX9_lays_142 rfl ?_
            refine j_get (pc := 143) X iw_X9_lays_X9 wm0 rfl 0 (Nat.le_of_ble_eq_true rfl) lk_X9_lays_1 (v := .ref (am 1)) rfl dX9_lays_143 ?_
            refine j_bipush (pc := 146) X dX9_lays_146 kb_7 ?_
            obtain ⟨b34, hf⟩ := gIn_s hf
            refine j_iald (pc := 148) X wm1 b34 dX9_lays_148 ?_
            refine j_icmp_le (tgt := 164) (pc := 149) X dX9_lays_149 rfl (fun c35 => ?_) (fun c35 => ?_)
            · have hf := kT c35 hf
              exact hj164_21 _ _ hf
            · have hf := kF c35 hf
              exact hj152_29 () hf
        refine j_if_ge (tgt := 115) (pc := 97) X dX9_lays_97 rfl (fun c36 => ?_) (fun c36 => ?_)
        · have hf := kT c36 hf
          refine j_aload_n (pc := 115) X dX9_lays_115 rfl ?_
          refine j_get (pc := 116) X iw_X9_lays_X9 wm0 rfl 7 (Nat.le_of_ble_eq_true rfl) lk_X9_lays_5 (v := .ref (am 5)) rfl dX9_lays_116 ?_
          refine j_aload_n (pc := 119) X dX9_lays_119 rfl ?_
          refine j_get (pc := 120) X iw_X9_lays_X9 wm0 rfl 10 (Nat.le_of_ble_eq_true rfl) lk_X9_lays_2 (v := .ref (am 7)) rfl dX9_lays_120 ?_
          refine j_iload (pc := 123) X dX9_lays_123 rfl ?_
          obtain ⟨b37, hf⟩ := gIn_s hf
          refine j_iald (pc := 125) X wm7 b37 dX9_lays_125 ?_
          obtain ⟨b38, hf⟩ := gIn_s hf
          refine j_iald (pc := 126) X wm5 b38 dX9_lays_126 ?_
          exact hj127_16 _ hf
        · have hf := kF c36 hf
          refine j_aload_n (pc := 100) X dX9_lays_100 rfl ?_
          refine j_bipush (pc := 101) X dX9_lays_101 kb_34 ?_
          refine j_bipush (pc := 103) X dX9_lays_103 kb_13 ?_
          refine j_iload (pc := 105) X dX9_lays_105 rfl ?_
          refine j_imul (pc := 107) X dX9_lays_107 ?_
          refine j_iadd (pc := 108) X dX9_lays_108 ?_
          obtain ⟨r40, h39, hf⟩ := kB hf
          refine j_callI (pc := 109) X (c_X9_widthAt N C13 (34 + (13 * x7)) h39) gX9_lays_X9_widthAt rfl ⟨rfl, rfl⟩ rfl hd_X9_widthAt ⟨(Nat.le_of_ble_eq_true rfl), (Nat.le_of_ble_eq_true rfl)⟩ wm0 rfl rfl rfl (Nat.le_of_ble_eq_true rfl) rfl dX9_lays_109 ?_
          refine j_goto (tgt := 127) (pc := 112) X dX9_lays_112 rfl ?_
          exact hj127_16 _ hf
      exact lt_X9_lays_43 X hI Y hR N a1 a2 x6 x7     k84_13 hk84_13 N _ _ hf
set_option maxHeartbeats 4000000 in
set_option maxRecDepth 100000 in
theorem t_X9_lays {g : kG} {cI cS : ClassId} {am : Nat → Nat} (X : Kx g cI cS cX9_lays RX9 wsX9_lays 6 rm_X9_lays) {Cr : kS} (hI : kInj 11 am) (Y : Kw g (WM cI am) (kAd 11 am)) (hR : kRV g (WM cI am) 6 cX9_lays Cr) (N : Nat) (C : kS) (a1 : Int32) (a2 : Int32)  (hf : f_X9_lays N C a1 a2 = some Cr) : J g (WM cI am) 6 C 0 [some (.ref (am 0)), some (.int a1), some (.int a2), none, none, none] [] := by
  unfold f_X9_lays at hf
  refine j_aload_n (pc := 0) X dX9_lays_0 rfl ?_
  refine j_iload_n (pc := 1) X dX9_lays_1 rfl ?_
  refine j_iload_n (pc := 2) X dX9_lays_2 rfl ?_
  obtain ⟨C2, h1, hf⟩ := kB hf
  refine j_callV (pc := 3) X Y (c_X9_bars hI N C a1 a2 h1) gX9_lays_X9_bars rfl ⟨rfl, rfl⟩ rfl hd_X9_bars ⟨(Nat.le_of_ble_eq_true rfl), (Nat.le_of_ble_eq_true rfl)⟩ wm0 rfl rfl rfl (Nat.le_of_ble_eq_true rfl) rfl dX9_lays_3 ?_
  refine j_aload_n (pc := 6) X dX9_lays_6 rfl ?_
  refine j_iconst (pc := 7) X dX9_lays_7 kc_0 ?_
  obtain ⟨C3, eC3, hf⟩ := jn_s hf
  refine j_put (C' := C3) (pc := 8) X Y iw_X9_lays_X9 tyX9 tyX9_ok nmX9 wm0 rfl 14 (Nat.le_of_ble_eq_true rfl) lk_X9_lays_0 rfl (tyX9_ok 14 (Nat.le_of_ble_eq_true rfl)) (Nat.le_of_ble_eq_true rfl) dX9_lays_8 (by rw [eC3]; exact sm0_14 _) ?_
  refine j_iconst (pc := 11) X dX9_lays_11 kc_0 ?_
  refine j_istore_n (pc := 12) X dX9_lays_12 (Nat.le_of_ble_eq_true rfl) (lv' := [some (.ref (am 0)), some (.int a1), some (.int a2), some (.int 0), none, none]) rfl ?_
  refine j_iconst (pc := 13) X dX9_lays_13 kc_0 ?_
  refine j_istore (pc := 14) X dX9_lays_14 (Nat.le_of_ble_eq_true rfl) (lv' := [some (.ref (am 0)), some (.int a1), some (.int a2), some (.int 0), some (.int 0), none]) rfl ?_
  obtain ⟨k209_4, ek209_4, hf⟩ := jn_s hf
  have hk209_4 : ∀ (C4 : kS), k209_4 C4 = some Cr → J g (WM cI am) 6 C4 209 [some (.ref (am 0)), some (.int a1), some (.int a2), none, none, none] [] := by
    intro C4 hf
    have hf := jE1 ek209_4 hf
    exact j_retV hR dX9_lays_209 hf
  exact lt_X9_lays_16 X hI Y hR N a1 a2   k209_4 hk209_4 N _ _ _ hf
theorem c_X9_lays {l : Launch} {D : va_G} {cI cS : ClassId} {am : Nat → Nat} (hI : kInj 11 am) (N : Nat) (C : kS) (a1 : Int32) (a2 : Int32) {Cr : kS} (hf : f_X9_lays N C a1 a2 = some Cr) : mV l yX9_lays wsX9_lays rm_X9_lays D cI cS (WM cI am) (kAd 11 am) C [.ref (am 0), .int a1, .int a2] Cr :=
  mV.of (by decide) rfl rfl (Nat.le_of_ble_eq_true rfl) (WM_D hI) (fun g X Y hR => t_X9_lays X hI Y hR N C a1 a2  hf)
abbrev rm_X9_laysNow : Room := { frames := 5, cells := 0, slots := 0, locals := 114 }
theorem lk_X9_laysNow_0 : Cond.fieldLink RX9 7 "BlackBarsModel" "s" "[I" ∈ wsX9_laysNow := List.mem_of_getElem? (i := 1) rfl
theorem iw_X9_laysNow_X9 : ∀ w ∈ wsX90, w ∈ wsX9_laysNow := fun _ h => List.mem_cons_of_mem _ (List.mem_append_right _ h)
def f_X9_laysNow (N : Nat) (C : kS) : Option (kS) := gIn 3 642 (gIn 4 642 ((f_X9_lays N C (C 1 (3 : Int32).toNatClampNeg) (C 1 (4 : Int32).toNatClampNeg)).bind (fun C4 => some C4)))
theorem hd_X9_laysNow : kHd yX9_laysNow 0 := by decide +kernel
set_option maxHeartbeats 4000000 in
set_option maxRecDepth 100000 in
theorem t_X9_laysNow {g : kG} {cI cS : ClassId} {am : Nat → Nat} (X : Kx g cI cS cX9_laysNow RX9 wsX9_laysNow 1 rm_X9_laysNow) {Cr : kS} (hI : kInj 11 am) (Y : Kw g (WM cI am) (kAd 11 am)) (hR : kRV g (WM cI am) 1 cX9_laysNow Cr) (N : Nat) (C : kS)   (hf : f_X9_laysNow N C = some Cr) : J g (WM cI am) 1 C 0 [some (.ref (am 0))] [] := by
  unfold f_X9_laysNow at hf
  refine j_aload_n (pc := 0) X dX9_laysNow_0 rfl ?_
  refine j_aload_n (pc := 1) X dX9_laysNow_1 rfl ?_
  refine j_get (pc := 2) X iw_X9_laysNow_X9 wm0 rfl 0 (Nat.le_of_ble_eq_true rfl) lk_X9_laysNow_0 (v := .ref (am 1)) rfl dX9_laysNow_2 ?_
  refine j_iconst (pc := 5) X dX9_laysNow_5 kc_3 ?_
  obtain ⟨b1, hf⟩ := gIn_s hf
  refine j_iald (pc := 6) X wm1 b1 dX9_laysNow_6 ?_
  refine j_aload_n (pc := 7) X dX9_laysNow_7 rfl ?_
  refine j_get (pc := 8) X iw_X9_laysNow_X9 wm0 rfl 0 (Nat.le_of_ble_eq_true rfl) lk_X9_laysNow_0 (v := .ref (am 1)) rfl dX9_laysNow_8 ?_
  refine j_iconst (pc := 11) X dX9_laysNow_11 kc_4 ?_
  obtain ⟨b2, hf⟩ := gIn_s hf
  refine j_iald (pc := 12) X wm1 b2 dX9_laysNow_12 ?_
  obtain ⟨C4, h3, hf⟩ := kB hf
  refine j_callV (pc := 13) X Y (c_X9_lays hI N C (C 1 (3 : Int32).toNatClampNeg) (C 1 (4 : Int32).toNatClampNeg) h3) gX9_laysNow_X9_lays rfl ⟨rfl, rfl⟩ rfl hd_X9_lays ⟨(Nat.le_of_ble_eq_true rfl), (Nat.le_of_ble_eq_true rfl)⟩ wm0 rfl rfl rfl (Nat.le_of_ble_eq_true rfl) rfl dX9_laysNow_13 ?_
  exact j_retV hR dX9_laysNow_16 hf
theorem c_X9_laysNow {l : Launch} {D : va_G} {cI cS : ClassId} {am : Nat → Nat} (hI : kInj 11 am) (N : Nat) (C : kS)  {Cr : kS} (hf : f_X9_laysNow N C = some Cr) : mV l yX9_laysNow wsX9_laysNow rm_X9_laysNow D cI cS (WM cI am) (kAd 11 am) C [.ref (am 0)] Cr :=
  mV.of (by decide) rfl rfl (Nat.le_of_ble_eq_true rfl) (WM_D hI) (fun g X Y hR => t_X9_laysNow X hI Y hR N C   hf)
abbrev rm_X9_namesUnder : Room := { frames := 1, cells := 0, slots := 0, locals := 20 }
theorem lk_X9_namesUnder_0 : Cond.fieldLink RX9 93 "BlackBarsModel" "forms" "I" ∈ wsX9_namesUnder := List.mem_of_getElem? (i := 1) rfl
theorem iw_X9_namesUnder_X9 : ∀ w ∈ wsX90, w ∈ wsX9_namesUnder := fun _ h => List.mem_cons_of_mem _ (List.mem_append_right _ h)
theorem lk_X9_namesUnder_1 : Cond.fieldLink RX9 22 "BlackBarsModel" "barWidth" "[I" ∈ wsX9_namesUnder := List.mem_of_getElem? (i := 2) rfl
def lp_X9_namesUnder_4 (N : Nat) (C : kS) (a1 : Int32) (k43_1 : Int32 → Option (Int32)) : Nat → Int32 → Int32 → Option (Int32)
  | 0, _, _ => none
  | n + 1, x3, x4 => if (C 0 9) ≤ x4 then k43_1 x3 else gIn x4 40 (jn (fun (t7 : Int32) => lp_X9_namesUnder_4 N C a1 k43_1 n (x3 ||| t7) (x4 + 1)) (fun j35_7 => if (C 5 x4.toNatClampNeg) = a1 then (f_X9_each N C).bind (fun r11 => gNz r11 (j35_7 (1 <<< ((x4 / r11) &&& 31)))) else j35_7 0))
def f_X9_namesUnder (N : Nat) (C : kS) (a1 : Int32) : Option (Int32) := jn (fun (x1 : Int32) => some x1) (fun k43_1 => lp_X9_namesUnder_4 N C a1 k43_1 N 0 0)
theorem hd_X9_namesUnder : kHd yX9_namesUnder 1 := by decide +kernel
set_option maxHeartbeats 4000000 in
set_option maxRecDepth 100000 in
theorem lt_X9_namesUnder_4 {g : kG} {cI cS : ClassId} {am : Nat → Nat} {C : kS} (X : Kx g cI cS cX9_namesUnder RX9 wsX9_namesUnder 4 rm_X9_namesUnder) {r : Int32} (hR : kRI g (WM cI am) 4 cX9_namesUnder .int C r) (N : Nat) (a1 : Int32)  (k43_1 : Int32 → Option (Int32)) (hk43_1 : ∀ (x1 : Int32), k43_1 x1 = some r → J g (WM cI am) 4 C 43 [some (.ref (am 0)), some (.int a1), some (.int x1), none] []) : ∀ (n : Nat) (x3 : Int32) (x4 : Int32), lp_X9_namesUnder_4 N C a1 k43_1 n x3 x4 = some r → J g (WM cI am) 4 C 4 [some (.ref (am 0)), some (.int a1), some (.int x3), some (.int x4)] [] := by
  intro n
  induction n with
  | zero =>
    intro x3 x4 hf
    rw [lp_X9_namesUnder_4] at hf
    cases hf
  | succ n ih =>
    intro x3 x4 hf
    rw [lp_X9_namesUnder_4] at hf
    refine j_iload_n (pc := 4) X dX9_namesUnder_4 rfl ?_
    refine j_aload_n (pc := 5) X dX9_namesUnder_5 rfl ?_
    refine j_get (pc := 6) X iw_X9_namesUnder_X9 wm0 rfl 9 (Nat.le_of_ble_eq_true rfl) lk_X9_namesUnder_0 (v := .int (C 0 9)) rfl dX9_namesUnder_6 ?_
    refine j_icmp_ge (tgt := 43) (pc := 9) X dX9_namesUnder_9 rfl (fun c5 => ?_) (fun c5 => ?_)
    · have hf := kT c5 hf
      refine j_weak (lv' := [some (.ref (am 0)), some (.int a1), some (.int x3), none]) (And.intro rfl (And.intro rfl (And.intro rfl trivial))) ?_
      exact hk43_1 _ hf
    · have hf := kF c5 hf
      refine j_iload_n (pc := 12) X dX9_namesUnder_12 rfl ?_
      refine j_aload_n (pc := 13) X dX9_namesUnder_13 rfl ?_
      refine j_get (pc := 14) X iw_X9_namesUnder_X9 wm0 rfl 7 (Nat.le_of_ble_eq_true rfl) lk_X9_namesUnder_1 (v := .ref (am 5)) rfl dX9_namesUnder_14 ?_
      refine j_iload_n (pc := 17) X dX9_namesUnder_17 rfl ?_
      obtain ⟨b6, hf⟩ := gIn_s hf
      refine j_iald (pc := 18) X wm5 b6 dX9_namesUnder_18 ?_
      refine j_iload_n (pc := 19) X dX9_namesUnder_19 rfl ?_
      obtain ⟨j35_7, ej35_7, hf⟩ := jn_s hf
      have hj35_7 : ∀ (t7 : Int32), j35_7 t7 = some r → J g (WM cI am) 4 C 35 [some (.ref (am 0)), some (.int a1), some (.int x3), some (.int x4)] [.int t7, .int x3] := by
        intro t7 hf
        have hf := jE1 ej35_7 hf
        refine j_ior (pc := 35) X dX9_namesUnder_35 ?_
        refine j_istore_n (pc := 36) X dX9_namesUnder_36 (Nat.le_of_ble_eq_true rfl) (lv' := [some (.ref (am 0)), some (.int a1), some (.int (x3 ||| t7)), some (.int x4)]) rfl ?_
        refine j_iinc (pc := 37) X dX9_namesUnder_37 rfl (v := x4 + 1) (by rw [kc_1]) (Nat.le_of_ble_eq_true rfl) (lv' := [some (.ref (am 0)), some (.int a1), some (.int (x3 ||| t7)), some (.int (x4 + 1))]) rfl ?_
        refine j_goto (tgt := 4) (pc := 40) X dX9_namesUnder_40 rfl ?_
        exact ih _ _ hf
      refine j_icmp_ne (tgt := 34) (pc := 20) X dX9_namesUnder_20 rfl (fun c9 => ?_) (fun c9 => ?_)
      · have hf := kF c9 hf
        refine j_iconst (pc := 34) X dX9_namesUnder_34 kc_0 ?_
        exact hj35_7 _ hf
      · have hf := kT c9 hf
        refine j_iconst (pc := 23) X dX9_namesUnder_23 kc_1 ?_
        refine j_iload_n (pc := 24) X dX9_namesUnder_24 rfl ?_
        refine j_aload_n (pc := 25) X dX9_namesUnder_25 rfl ?_
        obtain ⟨r11, h10, hf⟩ := kB hf
        refine j_callI (pc := 26) X (c_X9_each N C  h10) gX9_namesUnder_X9_each rfl ⟨rfl, rfl⟩ rfl hd_X9_each ⟨(Nat.le_of_ble_eq_true rfl), (Nat.le_of_ble_eq_true rfl)⟩ wm0 rfl rfl rfl (Nat.le_of_ble_eq_true rfl) rfl dX9_namesUnder_26 ?_
        obtain ⟨z12, hf⟩ := gNz_s hf
        refine j_idiv (pc := 29) X dX9_namesUnder_29 z12 ?_
        refine j_ishl (pc := 30) X dX9_namesUnder_30 ?_
        refine j_goto (tgt := 35) (pc := 31) X dX9_namesUnder_31 rfl ?_
        exact hj35_7 _ hf
set_option maxHeartbeats 4000000 in
set_option maxRecDepth 100000 in
theorem t_X9_namesUnder {g : kG} {cI cS : ClassId} {am : Nat → Nat} {C : kS} (X : Kx g cI cS cX9_namesUnder RX9 wsX9_namesUnder 4 rm_X9_namesUnder) {r : Int32} (hR : kRI g (WM cI am) 4 cX9_namesUnder .int C r) (N : Nat) (a1 : Int32)  (hf : f_X9_namesUnder N C a1 = some r) : J g (WM cI am) 4 C 0 [some (.ref (am 0)), some (.int a1), none, none] [] := by
  unfold f_X9_namesUnder at hf
  refine j_iconst (pc := 0) X dX9_namesUnder_0 kc_0 ?_
  refine j_istore_n (pc := 1) X dX9_namesUnder_1 (Nat.le_of_ble_eq_true rfl) (lv' := [some (.ref (am 0)), some (.int a1), some (.int 0), none]) rfl ?_
  refine j_iconst (pc := 2) X dX9_namesUnder_2 kc_0 ?_
  refine j_istore_n (pc := 3) X dX9_namesUnder_3 (Nat.le_of_ble_eq_true rfl) (lv' := [some (.ref (am 0)), some (.int a1), some (.int 0), some (.int 0)]) rfl ?_
  obtain ⟨k43_1, ek43_1, hf⟩ := jn_s hf
  have hk43_1 : ∀ (x1 : Int32), k43_1 x1 = some r → J g (WM cI am) 4 C 43 [some (.ref (am 0)), some (.int a1), some (.int x1), none] [] := by
    intro x1 hf
    have hf := jE1 ek43_1 hf
    refine j_iload_n (pc := 43) X dX9_namesUnder_43 rfl ?_
    exact j_retI hR dX9_namesUnder_44 hf
  exact lt_X9_namesUnder_4 X hR N a1   k43_1 hk43_1 N _ _ hf
theorem c_X9_namesUnder {l : Launch} {D : va_G} {cI cS : ClassId} {am : Nat → Nat} (N : Nat) (C : kS) (a1 : Int32) {r : Int32} (hf : f_X9_namesUnder N C a1 = some r) : mI l yX9_namesUnder wsX9_namesUnder rm_X9_namesUnder D cI cS (WM cI am) C [.ref (am 0), .int a1] r :=
  mI.of (by decide) rfl rfl (Nat.le_of_ble_eq_true rfl) (fun g X hR => t_X9_namesUnder X  hR N a1  hf)
abbrev rm_X9_sumOf : Room := { frames := 2, cells := 0, slots := 0, locals := 43 }
theorem lk_X9_sumOf_0 : Cond.fieldLink RX9 7 "BlackBarsModel" "s" "[I" ∈ wsX9_sumOf := List.mem_of_getElem? (i := 1) rfl
theorem iw_X9_sumOf_X9 : ∀ w ∈ wsX90, w ∈ wsX9_sumOf := fun _ h => List.mem_cons_of_mem _ (List.mem_append_right _ h)
theorem lk_X9_sumOf_1 : Cond.fieldLink RX9 28 "BlackBarsModel" "formOf" "[I" ∈ wsX9_sumOf := List.mem_of_getElem? (i := 2) rfl
theorem lk_X9_sumOf_2 : Cond.fieldLink RX9 31 "BlackBarsModel" "shown" "[I" ∈ wsX9_sumOf := List.mem_of_getElem? (i := 3) rfl
theorem lk_X9_sumOf_3 : Cond.fieldLink RX9 19 "BlackBarsModel" "formWidth" "[I" ∈ wsX9_sumOf := List.mem_of_getElem? (i := 4) rfl
def lp_X9_sumOf_37 (N : Nat) (C : kS) (x4 : Int32) (k87_10 : Int32 → Option (Int32)) : Nat → Int32 → Int32 → Option (Int32)
  | 0, _, _ => none
  | n + 1, x35, x36 => if x4 ≤ x36 then k87_10 x35 else jn (fun (t38 : Int32) => lp_X9_sumOf_37 N C x4 k87_10 n t38 (x36 + 1)) (fun j79_38 => jn (j79_38 0) (fun j78_39 => if x35 = 0 then j78_39 else gIn x36 40 (jn (j79_38 1) (fun j74_42 => if (C 7 x36.toNatClampNeg) < 0 then j74_42 else gIn x36 40 (gIn x4 40 (if (C 8 x36.toNatClampNeg) = (C 8 x4.toNatClampNeg) then j78_39 else j74_42))))))
def lp_X9_sumOf_4 (N : Nat) (C : kS) (a1 : Int32) (k215_1 : Int32 → Option (Int32)) : Nat → Int32 → Int32 → Option (Int32)
  | 0, _, _ => none
  | n + 1, x3, x4 => gIn 0 642 (if (C 1 (0 : Int32).toNatClampNeg) ≤ x4 then k215_1 x3 else gIn x4 40 (jn (fun (t8 : Int32) => jn (fun (x10 : Int32) => jn (fun (t12 : Int32) => jn (fun (t14 : Int32) => lp_X9_sumOf_4 N C a1 k215_1 n (x3 + t14) (x4 + 1)) (fun j207_14 => if a1 = 12 then gIn x4 40 (j207_14 (C 8 x4.toNatClampNeg)) else if t8 = 0 then j207_14 0 else j207_14 t12)) (fun j178_12 => if a1 = 1 then j178_12 1 else if a1 = 11 then jn (j178_12 0) (fun j128_26 => if t8 = 0 then j128_26 else gIn x4 40 ((f_X9_namesUnder N C (C 8 x4.toNatClampNeg)).bind (fun r31 => (f_X9_bits N r31).bind (fun r33 => if r33 = 1 then j178_12 1 else j128_26)))) else if a1 = 13 then if t8 = 0 then j178_12 0 else gIn x4 40 (gIn x4 40 (gIn (C 7 x4.toNatClampNeg) 40 (j178_12 ((C 8 x4.toNatClampNeg) - (C 4 (C 7 x4.toNatClampNeg).toNatClampNeg))))) else if x10 = 0 then j178_12 0 else j178_12 1)) (fun k87_10 => lp_X9_sumOf_37 N C x4 k87_10 N t8 0)) (fun j28_8 => if (C 7 x4.toNatClampNeg) < 0 then j28_8 0 else j28_8 1)))
def f_X9_sumOf (N : Nat) (C : kS) (a1 : Int32) : Option (Int32) := jn (fun (x1 : Int32) => some x1) (fun k215_1 => lp_X9_sumOf_4 N C a1 k215_1 N 0 0)
theorem hd_X9_sumOf : kHd yX9_sumOf 1 := by decide +kernel
set_option maxHeartbeats 4000000 in
set_option maxRecDepth 100000 in
theorem lt_X9_sumOf_37 {g : kG} {cI cS : ClassId} {am : Nat → Nat} {C : kS} (X : Kx g cI cS cX9_sumOf RX9 wsX9_sumOf 7 rm_X9_sumOf) {r : Int32} (hR : kRI g (WM cI am) 7 cX9_sumOf .int C r) (N : Nat) (a1 : Int32) (x3 : Int32) (x4 : Int32) (t8 : Int32)  (k87_10 : Int32 → Option (Int32)) (hk87_10 : ∀ (x10 : Int32), k87_10 x10 = some r → J g (WM cI am) 7 C 87 [some (.ref (am 0)), some (.int a1), some (.int x3), some (.int x4), some (.int t8), some (.int x10), none] []) : ∀ (n : Nat) (x35 : Int32) (x36 : Int32), lp_X9_sumOf_37 N C x4 k87_10 n x35 x36 = some r → J g (WM cI am) 7 C 37 [some (.ref (am 0)), some (.int a1), some (.int x3), some (.int x4), some (.int t8), some (.int x35), some (.int x36)] [] := by
  intro n
  induction n with
  | zero =>
    intro x35 x36 hf
    rw [lp_X9_sumOf_37] at hf
    cases hf
  | succ n ih =>
    intro x35 x36 hf
    rw [lp_X9_sumOf_37] at hf
    refine j_iload (pc := 37) X dX9_sumOf_37 rfl ?_
    refine j_iload_n (pc := 39) X dX9_sumOf_39 rfl ?_
    refine j_icmp_ge (tgt := 87) (pc := 40) X dX9_sumOf_40 rfl (fun c37 => ?_) (fun c37 => ?_)
    · have hf := kT c37 hf
      refine j_weak (lv' := [some (.ref (am 0)), some (.int a1), some (.int x3), some (.int x4), some (.int t8), some (.int x35), none]) (And.intro rfl (And.intro rfl (And.intro rfl (And.intro rfl (And.intro rfl (And.intro rfl trivial)))))) ?_
      exact hk87_10 _ hf
    · have hf := kF c37 hf
      refine j_iload (pc := 43) X dX9_sumOf_43 rfl ?_
      obtain ⟨j79_38, ej79_38, hf⟩ := jn_s hf
      have hj79_38 : ∀ (t38 : Int32), j79_38 t38 = some r → J g (WM cI am) 7 C 79 [some (.ref (am 0)), some (.int a1), some (.int x3), some (.int x4), some (.int t8), some (.int x35), some (.int x36)] [.int t38] := by
        intro t38 hf
        have hf := jE1 ej79_38 hf
        refine j_istore (pc := 79) X dX9_sumOf_79 (Nat.le_of_ble_eq_true rfl) (lv' := [some (.ref (am 0)), some (.int a1), some (.int x3), some (.int x4), some (.int t8), some (.int t38), some (.int x36)]) rfl ?_
        refine j_iinc (pc := 81) X dX9_sumOf_81 rfl (v := x36 + 1) (by rw [kc_1]) (Nat.le_of_ble_eq_true rfl) (lv' := [some (.ref (am 0)), some (.int a1), some (.int x3), some (.int x4), some (.int t8), some (.int t38), some (.int (x36 + 1))]) rfl ?_
        refine j_goto (tgt := 37) (pc := 84) X dX9_sumOf_84 rfl ?_
        exact ih _ _ hf
      obtain ⟨j78_39, ej78_39, hf⟩ := jn_s hf
      have hj78_39 : ∀ (_ : Unit), j78_39 = some r → J g (WM cI am) 7 C 78 [some (.ref (am 0)), some (.int a1), some (.int x3), some (.int x4), some (.int t8), some (.int x35), some (.int x36)] [] := by
        intro _ hf
        have hf := jE0 ej78_39 hf
        refine j_iconst (pc := 78) X dX9_sumOf_78 kc_0 ?_
        exact hj79_38 _ hf
      refine j_if_eq (tgt := 78) (pc := 45) X dX9_sumOf_45 rfl (fun c41 => ?_) (fun c41 => ?_)
      · have hf := kT c41 hf
        exact hj78_39 () hf
      · have hf := kF c41 hf
        refine j_aload_n (pc := 48) X dX9_sumOf_48 rfl ?_
        refine j_get (pc := 49) X iw_X9_sumOf_X9 wm0 rfl 10 (Nat.le_of_ble_eq_true rfl) lk_X9_sumOf_1 (v := .ref (am 7)) rfl dX9_sumOf_49 ?_
        refine j_iload (pc := 52) X dX9_sumOf_52 rfl ?_
        obtain ⟨b42, hf⟩ := gIn_s hf
        refine j_iald (pc := 54) X wm7 b42 dX9_sumOf_54 ?_
        obtain ⟨j74_42, ej74_42, hf⟩ := jn_s hf
        have hj74_42 : ∀ (_ : Unit), j74_42 = some r → J g (WM cI am) 7 C 74 [some (.ref (am 0)), some (.int a1), some (.int x3), some (.int x4), some (.int t8), some (.int x35), some (.int x36)] [] := by
          intro _ hf
          have hf := jE0 ej74_42 hf
          refine j_iconst (pc := 74) X dX9_sumOf_74 kc_1 ?_
          refine j_goto (tgt := 79) (pc := 75) X dX9_sumOf_75 rfl ?_
          exact hj79_38 _ hf
        refine j_if_lt (tgt := 74) (pc := 55) X dX9_sumOf_55 rfl (fun c44 => ?_) (fun c44 => ?_)
        · have hf := kT c44 hf
          exact hj74_42 () hf
        · have hf := kF c44 hf
          refine j_aload_n (pc := 58) X dX9_sumOf_58 rfl ?_
          refine j_get (pc := 59) X iw_X9_sumOf_X9 wm0 rfl 11 (Nat.le_of_ble_eq_true rfl) lk_X9_sumOf_2 (v := .ref (am 8)) rfl dX9_sumOf_59 ?_
          refine j_iload (pc := 62) X dX9_sumOf_62 rfl ?_
          obtain ⟨b45, hf⟩ := gIn_s hf
          refine j_iald (pc := 64) X wm8 b45 dX9_sumOf_64 ?_
          refine j_aload_n (pc := 65) X dX9_sumOf_65 rfl ?_
          refine j_get (pc := 66) X iw_X9_sumOf_X9 wm0 rfl 11 (Nat.le_of_ble_eq_true rfl) lk_X9_sumOf_2 (v := .ref (am 8)) rfl dX9_sumOf_66 ?_
          refine j_iload_n (pc := 69) X dX9_sumOf_69 rfl ?_
          obtain ⟨b46, hf⟩ := gIn_s hf
          refine j_iald (pc := 70) X wm8 b46 dX9_sumOf_70 ?_
          refine j_icmp_eq (tgt := 78) (pc := 71) X dX9_sumOf_71 rfl (fun c47 => ?_) (fun c47 => ?_)
          · have hf := kT c47 hf
            exact hj78_39 () hf
          · have hf := kF c47 hf
            exact hj74_42 () hf
set_option maxHeartbeats 4000000 in
set_option maxRecDepth 100000 in
theorem lt_X9_sumOf_4 {g : kG} {cI cS : ClassId} {am : Nat → Nat} {C : kS} (X : Kx g cI cS cX9_sumOf RX9 wsX9_sumOf 7 rm_X9_sumOf) {r : Int32} (hR : kRI g (WM cI am) 7 cX9_sumOf .int C r) (N : Nat) (a1 : Int32)  (k215_1 : Int32 → Option (Int32)) (hk215_1 : ∀ (x1 : Int32), k215_1 x1 = some r → J g (WM cI am) 7 C 215 [some (.ref (am 0)), some (.int a1), some (.int x1), none, none, none, none] []) : ∀ (n : Nat) (x3 : Int32) (x4 : Int32), lp_X9_sumOf_4 N C a1 k215_1 n x3 x4 = some r → J g (WM cI am) 7 C 4 [some (.ref (am 0)), some (.int a1), some (.int x3), some (.int x4), none, none, none] [] := by
  intro n
  induction n with
  | zero =>
    intro x3 x4 hf
    rw [lp_X9_sumOf_4] at hf
    cases hf
  | succ n ih =>
    intro x3 x4 hf
    rw [lp_X9_sumOf_4] at hf
    refine j_iload_n (pc := 4) X dX9_sumOf_4 rfl ?_
    refine j_aload_n (pc := 5) X dX9_sumOf_5 rfl ?_
    refine j_get (pc := 6) X iw_X9_sumOf_X9 wm0 rfl 0 (Nat.le_of_ble_eq_true rfl) lk_X9_sumOf_0 (v := .ref (am 1)) rfl dX9_sumOf_6 ?_
    refine j_iconst (pc := 9) X dX9_sumOf_9 kc_0 ?_
    obtain ⟨b5, hf⟩ := gIn_s hf
    refine j_iald (pc := 10) X wm1 b5 dX9_sumOf_10 ?_
    refine j_icmp_ge (tgt := 215) (pc := 11) X dX9_sumOf_11 rfl (fun c6 => ?_) (fun c6 => ?_)
    · have hf := kT c6 hf
      refine j_weak (lv' := [some (.ref (am 0)), some (.int a1), some (.int x3), none, none, none, none]) (And.intro rfl (And.intro rfl (And.intro rfl trivial))) ?_
      exact hk215_1 _ hf
    · have hf := kF c6 hf
      refine j_aload_n (pc := 14) X dX9_sumOf_14 rfl ?_
      refine j_get (pc := 15) X iw_X9_sumOf_X9 wm0 rfl 10 (Nat.le_of_ble_eq_true rfl) lk_X9_sumOf_1 (v := .ref (am 7)) rfl dX9_sumOf_15 ?_
      refine j_iload_n (pc := 18) X dX9_sumOf_18 rfl ?_
      obtain ⟨b7, hf⟩ := gIn_s hf
      refine j_iald (pc := 19) X wm7 b7 dX9_sumOf_19 ?_
      obtain ⟨j28_8, ej28_8, hf⟩ := jn_s hf
      have hj28_8 : ∀ (t8 : Int32), j28_8 t8 = some r → J g (WM cI am) 7 C 28 [some (.ref (am 0)), some (.int a1), some (.int x3), some (.int x4), none, none, none] [.int t8] := by
        intro t8 hf
        have hf := jE1 ej28_8 hf
        refine j_istore (pc := 28) X dX9_sumOf_28 (Nat.le_of_ble_eq_true rfl) (lv' := [some (.ref (am 0)), some (.int a1), some (.int x3), some (.int x4), some (.int t8), none, none]) rfl ?_
        refine j_iload (pc := 30) X dX9_sumOf_30 rfl ?_
        refine j_istore (pc := 32) X dX9_sumOf_32 (Nat.le_of_ble_eq_true rfl) (lv' := [some (.ref (am 0)), some (.int a1), some (.int x3), some (.int x4), some (.int t8), some (.int t8), none]) rfl ?_
        refine j_iconst (pc := 34) X dX9_sumOf_34 kc_0 ?_
        refine j_istore (pc := 35) X dX9_sumOf_35 (Nat.le_of_ble_eq_true rfl) (lv' := [some (.ref (am 0)), some (.int a1), some (.int x3), some (.int x4), some (.int t8), some (.int t8), some (.int 0)]) rfl ?_
        obtain ⟨k87_10, ek87_10, hf⟩ := jn_s hf
        have hk87_10 : ∀ (x10 : Int32), k87_10 x10 = some r → J g (WM cI am) 7 C 87 [some (.ref (am 0)), some (.int a1), some (.int x3), some (.int x4), some (.int t8), some (.int x10), none] [] := by
          intro x10 hf
          have hf := jE1 ek87_10 hf
          refine j_iload_n (pc := 87) X dX9_sumOf_87 rfl ?_
          refine j_iconst (pc := 88) X dX9_sumOf_88 kc_1 ?_
          obtain ⟨j178_12, ej178_12, hf⟩ := jn_s hf
          have hj178_12 : ∀ (t12 : Int32), j178_12 t12 = some r → J g (WM cI am) 7 C 178 [some (.ref (am 0)), some (.int a1), some (.int x3), some (.int x4), some (.int t8), some (.int x10), none] [.int t12] := by
            intro t12 hf
            have hf := jE1 ej178_12 hf
            refine j_istore (pc := 178) X dX9_sumOf_178 (Nat.le_of_ble_eq_true rfl) (lv' := [some (.ref (am 0)), some (.int a1), some (.int x3), some (.int x4), some (.int t8), some (.int x10), some (.int t12)]) rfl ?_
            refine j_iload_n (pc := 180) X dX9_sumOf_180 rfl ?_
            refine j_iload_n (pc := 181) X dX9_sumOf_181 rfl ?_
            refine j_bipush (pc := 182) X dX9_sumOf_182 kb_12 ?_
            obtain ⟨j207_14, ej207_14, hf⟩ := jn_s hf
            have hj207_14 : ∀ (t14 : Int32), j207_14 t14 = some r → J g (WM cI am) 7 C 207 [some (.ref (am 0)), some (.int a1), some (.int x3), some (.int x4), some (.int t8), some (.int x10), some (.int t12)] [.int t14, .int x3] := by
              intro t14 hf
              have hf := jE1 ej207_14 hf
              refine j_iadd (pc := 207) X dX9_sumOf_207 ?_
              refine j_istore_n (pc := 208) X dX9_sumOf_208 (Nat.le_of_ble_eq_true rfl) (lv' := [some (.ref (am 0)), some (.int a1), some (.int (x3 + t14)), some (.int x4), some (.int t8), some (.int x10), some (.int t12)]) rfl ?_
              refine j_iinc (pc := 209) X dX9_sumOf_209 rfl (v := x4 + 1) (by rw [kc_1]) (Nat.le_of_ble_eq_true rfl) (lv' := [some (.ref (am 0)), some (.int a1), some (.int (x3 + t14)), some (.int (x4 + 1)), some (.int t8), some (.int x10), some (.int t12)]) rfl ?_
              refine j_goto (tgt := 4) (pc := 212) X dX9_sumOf_212 rfl ?_
              refine j_weak (lv' := [some (.ref (am 0)), some (.int a1), some (.int (x3 + t14)), some (.int (x4 + 1)), none, none, none]) (And.intro rfl (And.intro rfl (And.intro rfl (And.intro rfl trivial)))) ?_
              exact ih _ _ hf
            refine j_icmp_ne (tgt := 196) (pc := 184) X dX9_sumOf_184 rfl (fun c16 => ?_) (fun c16 => ?_)
            · have hf := kF c16 hf
              refine j_iload (pc := 196) X dX9_sumOf_196 rfl ?_
              refine j_if_eq (tgt := 206) (pc := 198) X dX9_sumOf_198 rfl (fun c17 => ?_) (fun c17 => ?_)
              · have hf := kT c17 hf
                refine j_iconst (pc := 206) X dX9_sumOf_206 kc_0 ?_
                exact hj207_14 _ hf
              · have hf := kF c17 hf
                refine j_iload (pc := 201) X dX9_sumOf_201 rfl ?_
                refine j_goto (tgt := 207) (pc := 203) X dX9_sumOf_203 rfl ?_
                exact hj207_14 _ hf
            · have hf := kT c16 hf
              refine j_aload_n (pc := 187) X dX9_sumOf_187 rfl ?_
              refine j_get (pc := 188) X iw_X9_sumOf_X9 wm0 rfl 11 (Nat.le_of_ble_eq_true rfl) lk_X9_sumOf_2 (v := .ref (am 8)) rfl dX9_sumOf_188 ?_
              refine j_iload_n (pc := 191) X dX9_sumOf_191 rfl ?_
              obtain ⟨b18, hf⟩ := gIn_s hf
              refine j_iald (pc := 192) X wm8 b18 dX9_sumOf_192 ?_
              refine j_goto (tgt := 207) (pc := 193) X dX9_sumOf_193 rfl ?_
              exact hj207_14 _ hf
          refine j_icmp_ne (tgt := 96) (pc := 89) X dX9_sumOf_89 rfl (fun c19 => ?_) (fun c19 => ?_)
          · have hf := kF c19 hf
            refine j_iload_n (pc := 96) X dX9_sumOf_96 rfl ?_
            refine j_bipush (pc := 97) X dX9_sumOf_97 kb_11 ?_
            refine j_icmp_ne (tgt := 132) (pc := 99) X dX9_sumOf_99 rfl (fun c20 => ?_) (fun c20 => ?_)
            · have hf := kF c20 hf
              refine j_iload_n (pc := 132) X dX9_sumOf_132 rfl ?_
              refine j_bipush (pc := 133) X dX9_sumOf_133 kb_13 ?_
              refine j_icmp_ne (tgt := 168) (pc := 135) X dX9_sumOf_135 rfl (fun c21 => ?_) (fun c21 => ?_)
              · have hf := kF c21 hf
                refine j_iload (pc := 168) X dX9_sumOf_168 rfl ?_
                refine j_if_eq (tgt := 177) (pc := 170) X dX9_sumOf_170 rfl (fun c22 => ?_) (fun c22 => ?_)
                · have hf := kT c22 hf
                  refine j_iconst (pc := 177) X dX9_sumOf_177 kc_0 ?_
                  exact hj178_12 _ hf
                · have hf := kF c22 hf
                  refine j_iconst (pc := 173) X dX9_sumOf_173 kc_1 ?_
                  refine j_goto (tgt := 178) (pc := 174) X dX9_sumOf_174 rfl ?_
                  exact hj178_12 _ hf
              · have hf := kT c21 hf
                refine j_iload (pc := 138) X dX9_sumOf_138 rfl ?_
                refine j_if_eq (tgt := 164) (pc := 140) X dX9_sumOf_140 rfl (fun c23 => ?_) (fun c23 => ?_)
                · have hf := kT c23 hf
                  refine j_iconst (pc := 164) X dX9_sumOf_164 kc_0 ?_
                  refine j_goto (tgt := 178) (pc := 165) X dX9_sumOf_165 rfl ?_
                  exact hj178_12 _ hf
                · have hf := kF c23 hf
                  refine j_aload_n (pc := 143) X dX9_sumOf_143 rfl ?_
                  refine j_get (pc := 144) X iw_X9_sumOf_X9 wm0 rfl 11 (Nat.le_of_ble_eq_true rfl) lk_X9_sumOf_2 (v := .ref (am 8)) rfl dX9_sumOf_144 ?_
                  refine j_iload_n (pc := 147) X dX9_sumOf_147 rfl ?_
                  obtain ⟨b24, hf⟩ := gIn_s hf
                  refine j_iald (pc := 148) X wm8 b24 dX9_sumOf_148 ?_
                  refine j_aload_n (pc := 149) X dX9_sumOf_149 rfl ?_
                  refine j_get (pc := 150) X iw_X9_sumOf_X9 wm0 rfl 6 (Nat.le_of_ble_eq_true rfl) lk_X9_sumOf_3 (v := .ref (am 4)) rfl dX9_sumOf_150 ?_
                  refine j_aload_n (pc := 153) X dX9_sumOf_153 rfl ?_
                  refine j_get (pc := 154) X iw_X9_sumOf_X9 wm0 rfl 10 (Nat.le_of_ble_eq_true rfl) lk_X9_sumOf_1 (v := .ref (am 7)) rfl dX9_sumOf_154 ?_
                  refine j_iload_n (pc := 157) X dX9_sumOf_157 rfl ?_
                  obtain ⟨b25, hf⟩ := gIn_s hf
                  refine j_iald (pc := 158) X wm7 b25 dX9_sumOf_158 ?_
                  obtain ⟨b26, hf⟩ := gIn_s hf
                  refine j_iald (pc := 159) X wm4 b26 dX9_sumOf_159 ?_
                  refine j_isub (pc := 160) X dX9_sumOf_160 ?_
                  refine j_goto (tgt := 178) (pc := 161) X dX9_sumOf_161 rfl ?_
                  exact hj178_12 _ hf
            · have hf := kT c20 hf
              refine j_iload (pc := 102) X dX9_sumOf_102 rfl ?_
              obtain ⟨j128_26, ej128_26, hf⟩ := jn_s hf
              have hj128_26 : ∀ (_ : Unit), j128_26 = some r → J g (WM cI am) 7 C 128 [some (.ref (am 0)), some (.int a1), some (.int x3), some (.int x4), some (.int t8), some (.int x10), none] [] := by
                intro _ hf
                have hf := jE0 ej128_26 hf
                refine j_iconst (pc := 128) X dX9_sumOf_128 kc_0 ?_
                refine j_goto (tgt := 178) (pc := 129) X dX9_sumOf_129 rfl ?_
                exact hj178_12 _ hf
              refine j_if_eq (tgt := 128) (pc := 104) X dX9_sumOf_104 rfl (fun c28 => ?_) (fun c28 => ?_)
              · have hf := kT c28 hf
                exact hj128_26 () hf
              · have hf := kF c28 hf
                refine j_aload_n (pc := 107) X dX9_sumOf_107 rfl ?_
                refine j_aload_n (pc := 108) X dX9_sumOf_108 rfl ?_
                refine j_get (pc := 109) X iw_X9_sumOf_X9 wm0 rfl 11 (Nat.le_of_ble_eq_true rfl) lk_X9_sumOf_2 (v := .ref (am 8)) rfl dX9_sumOf_109 ?_
                refine j_iload_n (pc := 112) X dX9_sumOf_112 rfl ?_
                obtain ⟨b29, hf⟩ := gIn_s hf
                refine j_iald (pc := 113) X wm8 b29 dX9_sumOf_113 ?_
                obtain ⟨r31, h30, hf⟩ := kB hf
                refine j_callI (pc := 114) X (c_X9_namesUnder N C (C 8 x4.toNatClampNeg) h30) gX9_sumOf_X9_namesUnder rfl ⟨rfl, rfl⟩ rfl hd_X9_namesUnder ⟨(Nat.le_of_ble_eq_true rfl), (Nat.le_of_ble_eq_true rfl)⟩ wm0 rfl rfl rfl (Nat.le_of_ble_eq_true rfl) rfl dX9_sumOf_114 ?_
                obtain ⟨r33, h32, hf⟩ := kB hf
                refine j_callP (pc := 117) X (c_X9_bits N r31 h32) gX9_sumOf_X9_bits rfl ⟨rfl, rfl⟩ hd_X9_bits ⟨(Nat.le_of_ble_eq_true rfl), (Nat.le_of_ble_eq_true rfl)⟩ rfl (Nat.le_of_ble_eq_true rfl) rfl dX9_sumOf_117 ?_
                refine j_iconst (pc := 120) X dX9_sumOf_120 kc_1 ?_
                refine j_icmp_ne (tgt := 128) (pc := 121) X dX9_sumOf_121 rfl (fun c34 => ?_) (fun c34 => ?_)
                · have hf := kF c34 hf
                  exact hj128_26 () hf
                · have hf := kT c34 hf
                  refine j_iconst (pc := 124) X dX9_sumOf_124 kc_1 ?_
                  refine j_goto (tgt := 178) (pc := 125) X dX9_sumOf_125 rfl ?_
                  exact hj178_12 _ hf
          · have hf := kT c19 hf
            refine j_iconst (pc := 92) X dX9_sumOf_92 kc_1 ?_
            refine j_goto (tgt := 178) (pc := 93) X dX9_sumOf_93 rfl ?_
            exact hj178_12 _ hf
        exact lt_X9_sumOf_37 X hR N a1 x3 x4 t8      k87_10 hk87_10 N _ _ hf
      refine j_if_lt (tgt := 27) (pc := 20) X dX9_sumOf_20 rfl (fun c48 => ?_) (fun c48 => ?_)
      · have hf := kT c48 hf
        refine j_iconst (pc := 27) X dX9_sumOf_27 kc_0 ?_
        exact hj28_8 _ hf
      · have hf := kF c48 hf
        refine j_iconst (pc := 23) X dX9_sumOf_23 kc_1 ?_
        refine j_goto (tgt := 28) (pc := 24) X dX9_sumOf_24 rfl ?_
        exact hj28_8 _ hf
set_option maxHeartbeats 4000000 in
set_option maxRecDepth 100000 in
theorem t_X9_sumOf {g : kG} {cI cS : ClassId} {am : Nat → Nat} {C : kS} (X : Kx g cI cS cX9_sumOf RX9 wsX9_sumOf 7 rm_X9_sumOf) {r : Int32} (hR : kRI g (WM cI am) 7 cX9_sumOf .int C r) (N : Nat) (a1 : Int32)  (hf : f_X9_sumOf N C a1 = some r) : J g (WM cI am) 7 C 0 [some (.ref (am 0)), some (.int a1), none, none, none, none, none] [] := by
  unfold f_X9_sumOf at hf
  refine j_iconst (pc := 0) X dX9_sumOf_0 kc_0 ?_
  refine j_istore_n (pc := 1) X dX9_sumOf_1 (Nat.le_of_ble_eq_true rfl) (lv' := [some (.ref (am 0)), some (.int a1), some (.int 0), none, none, none, none]) rfl ?_
  refine j_iconst (pc := 2) X dX9_sumOf_2 kc_0 ?_
  refine j_istore_n (pc := 3) X dX9_sumOf_3 (Nat.le_of_ble_eq_true rfl) (lv' := [some (.ref (am 0)), some (.int a1), some (.int 0), some (.int 0), none, none, none]) rfl ?_
  obtain ⟨k215_1, ek215_1, hf⟩ := jn_s hf
  have hk215_1 : ∀ (x1 : Int32), k215_1 x1 = some r → J g (WM cI am) 7 C 215 [some (.ref (am 0)), some (.int a1), some (.int x1), none, none, none, none] [] := by
    intro x1 hf
    have hf := jE1 ek215_1 hf
    refine j_iload_n (pc := 215) X dX9_sumOf_215 rfl ?_
    exact j_retI hR dX9_sumOf_216 hf
  exact lt_X9_sumOf_4 X hR N a1   k215_1 hk215_1 N _ _ hf
theorem c_X9_sumOf {l : Launch} {D : va_G} {cI cS : ClassId} {am : Nat → Nat} (N : Nat) (C : kS) (a1 : Int32) {r : Int32} (hf : f_X9_sumOf N C a1 = some r) : mI l yX9_sumOf wsX9_sumOf rm_X9_sumOf D cI cS (WM cI am) C [.ref (am 0), .int a1] r :=
  mI.of (by decide) rfl rfl (Nat.le_of_ble_eq_true rfl) (fun g X hR => t_X9_sumOf X  hR N a1  hf)
