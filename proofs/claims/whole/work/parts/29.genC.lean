abbrev rm_X8_same : Room := { frames := 3, cells := 0, slots := 0, locals := 69 }
theorem lk_X8_same_0 : Cond.fieldLink RX8 19 "BlackBars" "state" "LBlackBars$State;" ∈ wsX8_same := List.mem_of_getElem? (i := 1) rfl
theorem iw_X8_same_X8 : ∀ w ∈ wsX80, w ∈ wsX8_same := fun _ h => List.mem_cons_of_mem _ (List.mem_append_left _ (List.mem_append_left _ (List.mem_append_left _ (List.mem_append_left _ (List.mem_append_left _ (List.mem_append_left _ (List.mem_append_right _ h)))))))
theorem iw_X8_same_X5 : ∀ w ∈ wsX50, w ∈ wsX8_same := fun _ h => List.mem_cons_of_mem _ (List.mem_append_left _ (List.mem_append_left _ (List.mem_append_left _ (List.mem_append_left _ (List.mem_append_left _ (List.mem_append_right _ h))))))
theorem lk_X8_same_1 : Cond.fieldLink RX8 54 "BlackBars" "sheet" "LBlackBars$Sheet;" ∈ wsX8_same := List.mem_of_getElem? (i := 2) rfl
def lp_X8_same_33 (N : Nat) (C : kS) (a1 : Int32) (a2 : Int32) (k76_6 : Option (Int32)) : Nat → Int32 → Option (Int32)
  | 0, _ => none
  | n + 1, x8 => (f_X7_size N C 5).bind (fun r10 => if r10 ≤ x8 then k76_6 else (f_X4_isHidden N C x8).bind (fun r13 => jn (lp_X8_same_33 N C a1 a2 k76_6 n (x8 + 1)) (fun j70_13 => if r13 = 0 then j70_13 else (f_X8_tellsApart N C x8 a1 a2).bind (fun r17 => if r17 = 0 then j70_13 else some 0))))
def f_X8_same (N : Nat) (C : kS) (a1 : Int32) (a2 : Int32) : Option (Int32) := (f_X7_has N C 10 a1).bind (fun r2 => if r2 = 0 then some (-11) else (f_X7_has N C 10 a2).bind (fun r5 => if r5 = 0 then some (-11) else jn (some 1) (fun k76_6 => lp_X8_same_33 N C a1 a2 k76_6 N 0)))
theorem hd_X8_same : kHd yX8_same 2 := by decide +kernel
set_option maxHeartbeats 4000000 in
set_option maxRecDepth 100000 in
theorem lt_X8_same_33 {g : kG} {cI cS : ClassId} {ad : Nat → Nat} {C : kS} (X : Kx g cI cS cX8_same RX8 wsX8_same 4 rm_X8_same) {r : Int32} (hR : kRI g (WC cI cS ad) 4 cX8_same .int C r) (N : Nat) (a1 : Int32) (a2 : Int32)  (k76_6 : Option (Int32)) (hk76_6 : ∀ (_ : Unit), k76_6 = some r → J g (WC cI cS ad) 4 C 76 [some (.ref (ad 0)), some (.int a1), some (.int a2), none] []) : ∀ (n : Nat) (x8 : Int32), lp_X8_same_33 N C a1 a2 k76_6 n x8 = some r → J g (WC cI cS ad) 4 C 33 [some (.ref (ad 0)), some (.int a1), some (.int a2), some (.int x8)] [] := by
  intro n
  induction n with
  | zero =>
    intro x8 hf
    rw [lp_X8_same_33] at hf
    cases hf
  | succ n ih =>
    intro x8 hf
    rw [lp_X8_same_33] at hf
    refine j_iload_n (pc := 33) X dX8_same_33 rfl ?_
    refine j_aload_n (pc := 34) X dX8_same_34 rfl ?_
    refine j_get (pc := 35) X iw_X8_same_X8 (wc8 kd_0) rfl 1 (Nat.le_of_ble_eq_true rfl) lk_X8_same_0 (v := .ref (ad 4)) rfl dX8_same_35 ?_
    refine j_getN (pc := 38) X iw_X8_same_X5 (wc5 kd_4) rfl 0 (Nat.le_of_ble_eq_true rfl) (List.mem_of_getElem? (i := 3) rfl) (v := .ref (ad 5)) rfl dX8_same_38 ?_
    obtain ⟨r10, h9, hf⟩ := kB hf
    refine j_callI (pc := 41) X (c_X7_size N C 5 (kd5_1 kd_4 : kd 5 = 7) h9) gX8_same_X7_size rfl ⟨rfl, rfl⟩ rfl hd_X7_size ⟨(Nat.le_of_ble_eq_true rfl), (Nat.le_of_ble_eq_true rfl)⟩ (wc7 (kd5_1 kd_4 : kd 5 = 7)) rfl rfl rfl (Nat.le_of_ble_eq_true rfl) rfl dX8_same_41 ?_
    refine j_icmp_ge (tgt := 76) (pc := 44) X dX8_same_44 rfl (fun c11 => ?_) (fun c11 => ?_)
    · have hf := kT c11 hf
      refine j_weak (lv' := [some (.ref (ad 0)), some (.int a1), some (.int a2), none]) (And.intro rfl (And.intro rfl (And.intro rfl trivial))) ?_
      exact hk76_6 () hf
    · have hf := kF c11 hf
      refine j_aload_n (pc := 47) X dX8_same_47 rfl ?_
      refine j_get (pc := 48) X iw_X8_same_X8 (wc8 kd_0) rfl 6 (Nat.le_of_ble_eq_true rfl) lk_X8_same_1 (v := .ref (ad 119)) rfl dX8_same_48 ?_
      refine j_iload_n (pc := 51) X dX8_same_51 rfl ?_
      obtain ⟨r13, h12, hf⟩ := kB hf
      refine j_callI (pc := 52) X (c_X4_isHidden N C x8 h12) gX8_same_X4_isHidden rfl ⟨rfl, rfl⟩ rfl hd_X4_isHidden ⟨(Nat.le_of_ble_eq_true rfl), (Nat.le_of_ble_eq_true rfl)⟩ (wc4 kd_119) rfl rfl rfl (Nat.le_of_ble_eq_true rfl) rfl dX8_same_52 ?_
      obtain ⟨j70_13, ej70_13, hf⟩ := jn_s hf
      have hj70_13 : ∀ (_ : Unit), j70_13 = some r → J g (WC cI cS ad) 4 C 70 [some (.ref (ad 0)), some (.int a1), some (.int a2), some (.int x8)] [] := by
        intro _ hf
        have hf := jE0 ej70_13 hf
        refine j_iinc (pc := 70) X dX8_same_70 rfl (v := x8 + 1) (by rw [kc_1]) (Nat.le_of_ble_eq_true rfl) (lv' := [some (.ref (ad 0)), some (.int a1), some (.int a2), some (.int (x8 + 1))]) rfl ?_
        refine j_goto (tgt := 33) (pc := 73) X dX8_same_73 rfl ?_
        exact ih _ hf
      refine j_if_eq (tgt := 70) (pc := 55) X dX8_same_55 rfl (fun c15 => ?_) (fun c15 => ?_)
      · have hf := kT c15 hf
        exact hj70_13 () hf
      · have hf := kF c15 hf
        refine j_aload_n (pc := 58) X dX8_same_58 rfl ?_
        refine j_iload_n (pc := 59) X dX8_same_59 rfl ?_
        refine j_iload_n (pc := 60) X dX8_same_60 rfl ?_
        refine j_iload_n (pc := 61) X dX8_same_61 rfl ?_
        obtain ⟨r17, h16, hf⟩ := kB hf
        refine j_callI (pc := 62) X (c_X8_tellsApart N C x8 a1 a2 h16) gX8_same_X8_tellsApart rfl ⟨rfl, rfl⟩ rfl hd_X8_tellsApart ⟨(Nat.le_of_ble_eq_true rfl), (Nat.le_of_ble_eq_true rfl)⟩ (wc8 kd_0) rfl rfl rfl (Nat.le_of_ble_eq_true rfl) rfl dX8_same_62 ?_
        refine j_if_eq (tgt := 70) (pc := 65) X dX8_same_65 rfl (fun c18 => ?_) (fun c18 => ?_)
        · have hf := kT c18 hf
          exact hj70_13 () hf
        · have hf := kF c18 hf
          refine j_iconst (pc := 68) X dX8_same_68 kc_0 ?_
          exact j_retI hR dX8_same_69 hf
set_option maxHeartbeats 4000000 in
set_option maxRecDepth 100000 in
theorem t_X8_same {g : kG} {cI cS : ClassId} {ad : Nat → Nat} {C : kS} (X : Kx g cI cS cX8_same RX8 wsX8_same 4 rm_X8_same) {r : Int32} (hR : kRI g (WC cI cS ad) 4 cX8_same .int C r) (N : Nat) (a1 : Int32) (a2 : Int32)  (hf : f_X8_same N C a1 a2 = some r) : J g (WC cI cS ad) 4 C 0 [some (.ref (ad 0)), some (.int a1), some (.int a2), none] [] := by
  unfold f_X8_same at hf
  refine j_aload_n (pc := 0) X dX8_same_0 rfl ?_
  refine j_get (pc := 1) X iw_X8_same_X8 (wc8 kd_0) rfl 1 (Nat.le_of_ble_eq_true rfl) lk_X8_same_0 (v := .ref (ad 4)) rfl dX8_same_1 ?_
  refine j_getN (pc := 4) X iw_X8_same_X5 (wc5 kd_4) rfl 1 (Nat.le_of_ble_eq_true rfl) (List.mem_of_getElem? (i := 4) rfl) (v := .ref (ad 10)) rfl dX8_same_4 ?_
  refine j_iload_n (pc := 7) X dX8_same_7 rfl ?_
  obtain ⟨r2, h1, hf⟩ := kB hf
  refine j_callI (pc := 8) X (c_X7_has N C 10 (kd5_6 kd_4 : kd 10 = 7) a1 h1) gX8_same_X7_has rfl ⟨rfl, rfl⟩ rfl hd_X7_has ⟨(Nat.le_of_ble_eq_true rfl), (Nat.le_of_ble_eq_true rfl)⟩ (wc7 (kd5_6 kd_4 : kd 10 = 7)) rfl rfl rfl (Nat.le_of_ble_eq_true rfl) rfl dX8_same_8 ?_
  refine j_if_eq (tgt := 28) (pc := 11) X dX8_same_11 rfl (fun c3 => ?_) (fun c3 => ?_)
  · have hf := kT c3 hf
    refine j_bipush (pc := 28) X dX8_same_28 kb_m11 ?_
    exact j_retI hR dX8_same_30 hf
  · have hf := kF c3 hf
    refine j_aload_n (pc := 14) X dX8_same_14 rfl ?_
    refine j_get (pc := 15) X iw_X8_same_X8 (wc8 kd_0) rfl 1 (Nat.le_of_ble_eq_true rfl) lk_X8_same_0 (v := .ref (ad 4)) rfl dX8_same_15 ?_
    refine j_getN (pc := 18) X iw_X8_same_X5 (wc5 kd_4) rfl 1 (Nat.le_of_ble_eq_true rfl) (List.mem_of_getElem? (i := 4) rfl) (v := .ref (ad 10)) rfl dX8_same_18 ?_
    refine j_iload_n (pc := 21) X dX8_same_21 rfl ?_
    obtain ⟨r5, h4, hf⟩ := kB hf
    refine j_callI (pc := 22) X (c_X7_has N C 10 (kd5_6 kd_4 : kd 10 = 7) a2 h4) gX8_same_X7_has rfl ⟨rfl, rfl⟩ rfl hd_X7_has ⟨(Nat.le_of_ble_eq_true rfl), (Nat.le_of_ble_eq_true rfl)⟩ (wc7 (kd5_6 kd_4 : kd 10 = 7)) rfl rfl rfl (Nat.le_of_ble_eq_true rfl) rfl dX8_same_22 ?_
    refine j_if_ne (tgt := 31) (pc := 25) X dX8_same_25 rfl (fun c6 => ?_) (fun c6 => ?_)
    · have hf := kF c6 hf
      refine j_iconst (pc := 31) X dX8_same_31 kc_0 ?_
      refine j_istore_n (pc := 32) X dX8_same_32 (Nat.le_of_ble_eq_true rfl) (lv' := [some (.ref (ad 0)), some (.int a1), some (.int a2), some (.int 0)]) rfl ?_
      obtain ⟨k76_6, ek76_6, hf⟩ := jn_s hf
      have hk76_6 : ∀ (_ : Unit), k76_6 = some r → J g (WC cI cS ad) 4 C 76 [some (.ref (ad 0)), some (.int a1), some (.int a2), none] [] := by
        intro _ hf
        have hf := jE0 ek76_6 hf
        refine j_iconst (pc := 76) X dX8_same_76 kc_1 ?_
        exact j_retI hR dX8_same_77 hf
      exact lt_X8_same_33 X hR N a1 a2    k76_6 hk76_6 N _ hf
    · have hf := kT c6 hf
      refine j_bipush (pc := 28) X dX8_same_28 kb_m11 ?_
      exact j_retI hR dX8_same_30 hf
theorem c_X8_same {l : Launch} {D : va_G} {cI cS : ClassId} {ad : Nat → Nat} (N : Nat) (C : kS) (a1 : Int32) (a2 : Int32) {r : Int32} (hf : f_X8_same N C a1 a2 = some r) : mI l yX8_same wsX8_same rm_X8_same D cI cS (WC cI cS ad) C [.ref (ad 0), .int a1, .int a2] r :=
  mI.of (by decide) rfl rfl (Nat.le_of_ble_eq_true rfl) (fun g X hR => t_X8_same X  hR N a1 a2  hf)
abbrev rm_X8_set : Room := { frames := 5, cells := 0, slots := 0, locals := 125 }
theorem lk_X8_set_0 : Cond.fieldLink RX8 126 "BlackBars" "LEAST_VALUES" "[I" ∈ wsX8_set := List.mem_of_getElem? (i := 1) rfl
theorem lk_X8_set_1 : Cond.fieldLink RX8 130 "BlackBars" "GREATEST_VALUES" "[I" ∈ wsX8_set := List.mem_of_getElem? (i := 2) rfl
theorem lk_X8_set_2 : Cond.fieldLink RX8 19 "BlackBars" "state" "LBlackBars$State;" ∈ wsX8_set := List.mem_of_getElem? (i := 3) rfl
theorem iw_X8_set_X8 : ∀ w ∈ wsX80, w ∈ wsX8_set := fun _ h => List.mem_cons_of_mem _ (List.mem_append_left _ (List.mem_append_left _ (List.mem_append_left _ (List.mem_append_left _ (List.mem_append_left _ (List.mem_append_left _ (List.mem_append_left _ (List.mem_append_right _ h))))))))
theorem iw_X8_set_X5 : ∀ w ∈ wsX50, w ∈ wsX8_set := fun _ h => List.mem_cons_of_mem _ (List.mem_append_left _ (List.mem_append_left _ (List.mem_append_left _ (List.mem_append_left _ (List.mem_append_left _ (List.mem_append_left _ (List.mem_append_right _ h)))))))
theorem lk_X8_set_3 : Cond.fieldLink RX8 26 "BlackBars" "history" "LBlackBars$History;" ∈ wsX8_set := List.mem_of_getElem? (i := 4) rfl
def f_X8_set (N : Nat) (C : kS) (a1 : Int32) (a2 : Int32) : Option (Int32 × kS) := if a1 < 0 then some ((-11), C) else if a1 < 5 then gIn a1 5 (if a2 < (tb_LV a1.toNatClampNeg) then some ((-11), C) else gIn a1 5 (if a2 ≤ (tb_GV a1.toNatClampNeg) then (f_X3_at N C 22 a1).bind (fun r8 => (f_X2_keep N C).bind (fun C10 => (f_X3_put N C10 22 a1 a2).bind (fun C12 => (f_X8_workOut N C12).bind (fun C14 => some (r8, C14))))) else some ((-11), C))) else some ((-11), C)
theorem hd_X8_set : kHd yX8_set 2 := by decide +kernel
set_option maxHeartbeats 4000000 in
set_option maxRecDepth 100000 in
theorem t_X8_set {g : kG} {cI cS : ClassId} {ad : Nat → Nat} (X : Kx g cI cS cX8_set RX8 wsX8_set 4 rm_X8_set) {r : Int32} {Cr : kS} (hI : kInj 132 ad) (Y : Kw g (WC cI cS ad) (kAd 132 ad)) {LV GV : Nat} (SLV : va_Z RX8 "LEAST_VALUES" "[I" (.ref LV) (kAd 132 ad) g.1.2.2.2.2 g.1.2.2.2.2.heap) (ZLV : va_T .int LV 5 (fun j => .int (tb_LV j)) (kAd 132 ad) g.1.2.2.2.2 g.1.2.2.2.2.heap) (SGV : va_Z RX8 "GREATEST_VALUES" "[I" (.ref GV) (kAd 132 ad) g.1.2.2.2.2 g.1.2.2.2.2.heap) (ZGV : va_T .int GV 5 (fun j => .int (tb_GV j)) (kAd 132 ad) g.1.2.2.2.2 g.1.2.2.2.2.heap) (hR : kRI g (WC cI cS ad) 4 cX8_set .int Cr r) (N : Nat) (C : kS) (a1 : Int32) (a2 : Int32)  (hf : f_X8_set N C a1 a2 = some (r, Cr)) : J g (WC cI cS ad) 4 C 0 [some (.ref (ad 0)), some (.int a1), some (.int a2), none] [] := by
  unfold f_X8_set at hf
  refine j_iload_n (pc := 0) X dX8_set_0 rfl ?_
  refine j_if_lt (tgt := 9) (pc := 1) X dX8_set_1 rfl (fun c1 => ?_) (fun c1 => ?_)
  · have hf := kT c1 hf
    refine j_bipush (pc := 9) X dX8_set_9 kb_m11 ?_
    exact j_retW hR dX8_set_11 hf
  · have hf := kF c1 hf
    refine j_iload_n (pc := 4) X dX8_set_4 rfl ?_
    refine j_iconst (pc := 5) X dX8_set_5 kc_5 ?_
    refine j_icmp_lt (tgt := 12) (pc := 6) X dX8_set_6 rfl (fun c2 => ?_) (fun c2 => ?_)
    · have hf := kT c2 hf
      refine j_iload_n (pc := 12) X dX8_set_12 rfl ?_
      refine j_gets (pc := 13) X Y SLV lk_X8_set_0 dX8_set_13 ?_
      refine j_iload_n (pc := 16) X dX8_set_16 rfl ?_
      obtain ⟨b3, hf⟩ := gIn_s hf
      refine j_ti (pc := 17) X Y ZLV b3 dX8_set_17 ?_
      refine j_icmp_lt (tgt := 30) (pc := 18) X dX8_set_18 rfl (fun c4 => ?_) (fun c4 => ?_)
      · have hf := kT c4 hf
        refine j_bipush (pc := 30) X dX8_set_30 kb_m11 ?_
        exact j_retW hR dX8_set_32 hf
      · have hf := kF c4 hf
        refine j_iload_n (pc := 21) X dX8_set_21 rfl ?_
        refine j_gets (pc := 22) X Y SGV lk_X8_set_1 dX8_set_22 ?_
        refine j_iload_n (pc := 25) X dX8_set_25 rfl ?_
        obtain ⟨b5, hf⟩ := gIn_s hf
        refine j_ti (pc := 26) X Y ZGV b5 dX8_set_26 ?_
        refine j_icmp_le (tgt := 33) (pc := 27) X dX8_set_27 rfl (fun c6 => ?_) (fun c6 => ?_)
        · have hf := kT c6 hf
          refine j_aload_n (pc := 33) X dX8_set_33 rfl ?_
          refine j_get (pc := 34) X iw_X8_set_X8 (wc8 kd_0) rfl 1 (Nat.le_of_ble_eq_true rfl) lk_X8_set_2 (v := .ref (ad 4)) rfl dX8_set_34 ?_
          refine j_getN (pc := 37) X iw_X8_set_X5 (wc5 kd_4) rfl 4 (Nat.le_of_ble_eq_true rfl) (List.mem_of_getElem? (i := 2) rfl) (v := .ref (ad 22)) rfl dX8_set_37 ?_
          refine j_iload_n (pc := 40) X dX8_set_40 rfl ?_
          obtain ⟨r8, h7, hf⟩ := kB hf
          refine j_callI (pc := 41) X (c_X3_at N C 22 (kd5_18 kd_4 : kd 22 = 3) a1 h7) gX8_set_X3_at rfl ⟨rfl, rfl⟩ rfl hd_X3_at ⟨(Nat.le_of_ble_eq_true rfl), (Nat.le_of_ble_eq_true rfl)⟩ (wc3 (kd5_18 kd_4 : kd 22 = 3)) rfl rfl rfl (Nat.le_of_ble_eq_true rfl) rfl dX8_set_41 ?_
          refine j_istore_n (pc := 44) X dX8_set_44 (Nat.le_of_ble_eq_true rfl) (lv' := [some (.ref (ad 0)), some (.int a1), some (.int a2), some (.int r8)]) rfl ?_
          refine j_aload_n (pc := 45) X dX8_set_45 rfl ?_
          refine j_get (pc := 46) X iw_X8_set_X8 (wc8 kd_0) rfl 2 (Nat.le_of_ble_eq_true rfl) lk_X8_set_3 (v := .ref (ad 24)) rfl dX8_set_46 ?_
          refine j_aload_n (pc := 49) X dX8_set_49 rfl ?_
          refine j_get (pc := 50) X iw_X8_set_X8 (wc8 kd_0) rfl 1 (Nat.le_of_ble_eq_true rfl) lk_X8_set_2 (v := .ref (ad 4)) rfl dX8_set_50 ?_
          obtain ⟨C10, h9, hf⟩ := kB hf
          refine j_callV (pc := 53) X Y (c_X2_keep hI N C  h9) gX8_set_X2_keep rfl ⟨rfl, rfl⟩ rfl hd_X2_keep ⟨(Nat.le_of_ble_eq_true rfl), (Nat.le_of_ble_eq_true rfl)⟩ (wc2 kd_24) rfl rfl rfl (Nat.le_of_ble_eq_true rfl) rfl dX8_set_53 ?_
          refine j_aload_n (pc := 56) X dX8_set_56 rfl ?_
          refine j_get (pc := 57) X iw_X8_set_X8 (wc8 kd_0) rfl 1 (Nat.le_of_ble_eq_true rfl) lk_X8_set_2 (v := .ref (ad 4)) rfl dX8_set_57 ?_
          refine j_getN (pc := 60) X iw_X8_set_X5 (wc5 kd_4) rfl 4 (Nat.le_of_ble_eq_true rfl) (List.mem_of_getElem? (i := 2) rfl) (v := .ref (ad 22)) rfl dX8_set_60 ?_
          refine j_iload_n (pc := 63) X dX8_set_63 rfl ?_
          refine j_iload_n (pc := 64) X dX8_set_64 rfl ?_
          obtain ⟨C12, h11, hf⟩ := kB hf
          refine j_callV (pc := 65) X Y (c_X3_put hI N C10 22 (kd5_18 kd_4 : kd 22 = 3) a1 a2 h11) gX8_set_X3_put rfl ⟨rfl, rfl⟩ rfl hd_X3_put ⟨(Nat.le_of_ble_eq_true rfl), (Nat.le_of_ble_eq_true rfl)⟩ (wc3 (kd5_18 kd_4 : kd 22 = 3)) rfl rfl rfl (Nat.le_of_ble_eq_true rfl) rfl dX8_set_65 ?_
          refine j_aload_n (pc := 68) X dX8_set_68 rfl ?_
          obtain ⟨C14, h13, hf⟩ := kB hf
          refine j_callV (pc := 69) X Y (c_X8_workOut hI N C12  h13) gX8_set_X8_workOut rfl ⟨rfl, rfl⟩ rfl hd_X8_workOut ⟨(Nat.le_of_ble_eq_true rfl), (Nat.le_of_ble_eq_true rfl)⟩ (wc8 kd_0) rfl rfl rfl (Nat.le_of_ble_eq_true rfl) rfl dX8_set_69 ?_
          refine j_iload_n (pc := 72) X dX8_set_72 rfl ?_
          exact j_retW hR dX8_set_73 hf
        · have hf := kF c6 hf
          refine j_bipush (pc := 30) X dX8_set_30 kb_m11 ?_
          exact j_retW hR dX8_set_32 hf
    · have hf := kF c2 hf
      refine j_bipush (pc := 9) X dX8_set_9 kb_m11 ?_
      exact j_retW hR dX8_set_11 hf
theorem c_X8_set {l : Launch} {D : va_G} {cI cS : ClassId} {ad : Nat → Nat} (hI : kInj 132 ad) (N : Nat) (C : kS) (a1 : Int32) (a2 : Int32) {r : Int32} {Cr : kS} {LV GV : Nat} (hf : f_X8_set N C a1 a2 = some (r, Cr)) : mWE l yX8_set wsX8_set rm_X8_set D cI cS (WC cI cS ad) (kAd 132 ad) (kZ (kAd 132 ad) LV GV) C [.ref (ad 0), .int a1, .int a2] r Cr :=
  mWE.of (by decide) rfl rfl (Nat.le_of_ble_eq_true rfl) (WC_D hI) (fun g X Y hE hR => t_X8_set X hI Y hE.1.1 hE.1.2 hE.2.1 hE.2.2 hR N C a1 a2  hf)
abbrev rm_X8_stepFor : Room := { frames := 4, cells := 0, slots := 0, locals := 92 }
theorem lk_X8_stepFor_0 : Cond.fieldLink RX8 46 "BlackBars" "trialBars" "LBlackBars$Bars;" ∈ wsX8_stepFor := List.mem_of_getElem? (i := 1) rfl
theorem iw_X8_stepFor_X8 : ∀ w ∈ wsX80, w ∈ wsX8_stepFor := fun _ h => List.mem_cons_of_mem _ (List.mem_append_left _ (List.mem_append_left _ (List.mem_append_left _ (List.mem_append_left _ (List.mem_append_left _ (List.mem_append_left _ (List.mem_append_right _ h)))))))
theorem lk_X8_stepFor_1 : Cond.fieldLink RX8 19 "BlackBars" "state" "LBlackBars$State;" ∈ wsX8_stepFor := List.mem_of_getElem? (i := 2) rfl
theorem iw_X8_stepFor_X5 : ∀ w ∈ wsX50, w ∈ wsX8_stepFor := fun _ h => List.mem_cons_of_mem _ (List.mem_append_left _ (List.mem_append_left _ (List.mem_append_left _ (List.mem_append_left _ (List.mem_append_left _ (List.mem_append_right _ h))))))
theorem lk_X8_stepFor_2 : Cond.fieldLink RX8 54 "BlackBars" "sheet" "LBlackBars$Sheet;" ∈ wsX8_stepFor := List.mem_of_getElem? (i := 3) rfl
def lp_X8_stepFor_16 (N : Nat) (a1 : Int32) (k65_3 : kS → Option (Int32 × kS)) : Nat → Int32 → kS → Option (Int32 × kS)
  | 0, _, _ => none
  | n + 1, x5, C6 => if 50 < x5 then k65_3 C6 else (f_X3_at N C6 22 2).bind (fun r9 => (f_X0_draw N C6 116 1 x5 r9).bind (fun C11 => (f_X4_hasEnoughNames N C11 116 a1).bind (fun r13 => if r13 = 0 then lp_X8_stepFor_16 N a1 k65_3 n (x5 + 1) C11 else some (x5, C11))))
def f_X8_stepFor (N : Nat) (C : kS) (a1 : Int32) : Option (Int32 × kS) := if a1 < 1 then some ((-11), C) else if a1 ≤ 8 then jn (fun (C3 : kS) => some ((-14), C3)) (fun k65_3 => lp_X8_stepFor_16 N a1 k65_3 N 1 C) else some ((-11), C)
theorem hd_X8_stepFor : kHd yX8_stepFor 1 := by decide +kernel
set_option maxHeartbeats 4000000 in
set_option maxRecDepth 100000 in
theorem lt_X8_stepFor_16 {g : kG} {cI cS : ClassId} {ad : Nat → Nat} (X : Kx g cI cS cX8_stepFor RX8 wsX8_stepFor 3 rm_X8_stepFor) {r : Int32} {Cr : kS} (hI : kInj 132 ad) (Y : Kw g (WC cI cS ad) (kAd 132 ad)) (hR : kRI g (WC cI cS ad) 3 cX8_stepFor .int Cr r) (N : Nat) (a1 : Int32)  (k65_3 : kS → Option (Int32 × kS)) (hk65_3 : ∀ (C3 : kS), k65_3 C3 = some (r, Cr) → J g (WC cI cS ad) 3 C3 65 [some (.ref (ad 0)), some (.int a1), none] []) : ∀ (n : Nat) (x5 : Int32) (C6 : kS), lp_X8_stepFor_16 N a1 k65_3 n x5 C6 = some (r, Cr) → J g (WC cI cS ad) 3 C6 16 [some (.ref (ad 0)), some (.int a1), some (.int x5)] [] := by
  intro n
  induction n with
  | zero =>
    intro x5 C6 hf
    rw [lp_X8_stepFor_16] at hf
    cases hf
  | succ n ih =>
    intro x5 C6 hf
    rw [lp_X8_stepFor_16] at hf
    refine j_iload_n (pc := 16) X dX8_stepFor_16 rfl ?_
    refine j_bipush (pc := 17) X dX8_stepFor_17 kb_50 ?_
    refine j_icmp_gt (tgt := 65) (pc := 19) X dX8_stepFor_19 rfl (fun c7 => ?_) (fun c7 => ?_)
    · have hf := kT c7 hf
      refine j_weak (lv' := [some (.ref (ad 0)), some (.int a1), none]) (And.intro rfl (And.intro rfl trivial)) ?_
      exact hk65_3 _ hf
    · have hf := kF c7 hf
      refine j_aload_n (pc := 22) X dX8_stepFor_22 rfl ?_
      refine j_get (pc := 23) X iw_X8_stepFor_X8 (wc8 kd_0) rfl 5 (Nat.le_of_ble_eq_true rfl) lk_X8_stepFor_0 (v := .ref (ad 116)) rfl dX8_stepFor_23 ?_
      refine j_iconst (pc := 26) X dX8_stepFor_26 kc_1 ?_
      refine j_iload_n (pc := 27) X dX8_stepFor_27 rfl ?_
      refine j_aload_n (pc := 28) X dX8_stepFor_28 rfl ?_
      refine j_get (pc := 29) X iw_X8_stepFor_X8 (wc8 kd_0) rfl 1 (Nat.le_of_ble_eq_true rfl) lk_X8_stepFor_1 (v := .ref (ad 4)) rfl dX8_stepFor_29 ?_
      refine j_getN (pc := 32) X iw_X8_stepFor_X5 (wc5 kd_4) rfl 4 (Nat.le_of_ble_eq_true rfl) (List.mem_of_getElem? (i := 2) rfl) (v := .ref (ad 22)) rfl dX8_stepFor_32 ?_
      refine j_iconst (pc := 35) X dX8_stepFor_35 kc_2 ?_
      obtain ⟨r9, h8, hf⟩ := kB hf
      refine j_callI (pc := 36) X (c_X3_at N C6 22 (kd5_18 kd_4 : kd 22 = 3) 2 h8) gX8_stepFor_X3_at rfl ⟨rfl, rfl⟩ rfl hd_X3_at ⟨(Nat.le_of_ble_eq_true rfl), (Nat.le_of_ble_eq_true rfl)⟩ (wc3 (kd5_18 kd_4 : kd 22 = 3)) rfl rfl rfl (Nat.le_of_ble_eq_true rfl) rfl dX8_stepFor_36 ?_
      obtain ⟨C11, h10, hf⟩ := kB hf
      refine j_callV (pc := 39) X Y (c_X0_draw hI N C6 116 kd_116 1 x5 r9 h10) gX8_stepFor_X0_draw rfl ⟨rfl, rfl⟩ rfl hd_X0_draw ⟨(Nat.le_of_ble_eq_true rfl), (Nat.le_of_ble_eq_true rfl)⟩ (wc0 kd_116) rfl rfl rfl (Nat.le_of_ble_eq_true rfl) rfl dX8_stepFor_39 ?_
      refine j_aload_n (pc := 42) X dX8_stepFor_42 rfl ?_
      refine j_get (pc := 43) X iw_X8_stepFor_X8 (wc8 kd_0) rfl 6 (Nat.le_of_ble_eq_true rfl) lk_X8_stepFor_2 (v := .ref (ad 119)) rfl dX8_stepFor_43 ?_
      refine j_aload_n (pc := 46) X dX8_stepFor_46 rfl ?_
      refine j_get (pc := 47) X iw_X8_stepFor_X8 (wc8 kd_0) rfl 5 (Nat.le_of_ble_eq_true rfl) lk_X8_stepFor_0 (v := .ref (ad 116)) rfl dX8_stepFor_47 ?_
      refine j_iload_n (pc := 50) X dX8_stepFor_50 rfl ?_
      obtain ⟨r13, h12, hf⟩ := kB hf
      refine j_callI (pc := 51) X (c_X4_hasEnoughNames N C11 116 kd_116 a1 h12) gX8_stepFor_X4_hasEnoughNames rfl ⟨rfl, rfl⟩ rfl hd_X4_hasEnoughNames ⟨(Nat.le_of_ble_eq_true rfl), (Nat.le_of_ble_eq_true rfl)⟩ (wc4 kd_119) rfl rfl rfl (Nat.le_of_ble_eq_true rfl) rfl dX8_stepFor_51 ?_
      refine j_if_eq (tgt := 59) (pc := 54) X dX8_stepFor_54 rfl (fun c14 => ?_) (fun c14 => ?_)
      · have hf := kT c14 hf
        refine j_iinc (pc := 59) X dX8_stepFor_59 rfl (v := x5 + 1) (by rw [kc_1]) (Nat.le_of_ble_eq_true rfl) (lv' := [some (.ref (ad 0)), some (.int a1), some (.int (x5 + 1))]) rfl ?_
        refine j_goto (tgt := 16) (pc := 62) X dX8_stepFor_62 rfl ?_
        exact ih _ _ hf
      · have hf := kF c14 hf
        refine j_iload_n (pc := 57) X dX8_stepFor_57 rfl ?_
        exact j_retW hR dX8_stepFor_58 hf
set_option maxHeartbeats 4000000 in
set_option maxRecDepth 100000 in
theorem t_X8_stepFor {g : kG} {cI cS : ClassId} {ad : Nat → Nat} (X : Kx g cI cS cX8_stepFor RX8 wsX8_stepFor 3 rm_X8_stepFor) {r : Int32} {Cr : kS} (hI : kInj 132 ad) (Y : Kw g (WC cI cS ad) (kAd 132 ad)) (hR : kRI g (WC cI cS ad) 3 cX8_stepFor .int Cr r) (N : Nat) (C : kS) (a1 : Int32)  (hf : f_X8_stepFor N C a1 = some (r, Cr)) : J g (WC cI cS ad) 3 C 0 [some (.ref (ad 0)), some (.int a1), none] [] := by
  unfold f_X8_stepFor at hf
  refine j_iload_n (pc := 0) X dX8_stepFor_0 rfl ?_
  refine j_iconst (pc := 1) X dX8_stepFor_1 kc_1 ?_
  refine j_icmp_lt (tgt := 11) (pc := 2) X dX8_stepFor_2 rfl (fun c1 => ?_) (fun c1 => ?_)
  · have hf := kT c1 hf
    refine j_bipush (pc := 11) X dX8_stepFor_11 kb_m11 ?_
    exact j_retW hR dX8_stepFor_13 hf
  · have hf := kF c1 hf
    refine j_iload_n (pc := 5) X dX8_stepFor_5 rfl ?_
    refine j_bipush (pc := 6) X dX8_stepFor_6 kb_8 ?_
    refine j_icmp_le (tgt := 14) (pc := 8) X dX8_stepFor_8 rfl (fun c2 => ?_) (fun c2 => ?_)
    · have hf := kT c2 hf
      refine j_iconst (pc := 14) X dX8_stepFor_14 kc_1 ?_
      refine j_istore_n (pc := 15) X dX8_stepFor_15 (Nat.le_of_ble_eq_true rfl) (lv' := [some (.ref (ad 0)), some (.int a1), some (.int 1)]) rfl ?_
      obtain ⟨k65_3, ek65_3, hf⟩ := jn_s hf
      have hk65_3 : ∀ (C3 : kS), k65_3 C3 = some (r, Cr) → J g (WC cI cS ad) 3 C3 65 [some (.ref (ad 0)), some (.int a1), none] [] := by
        intro C3 hf
        have hf := jE1 ek65_3 hf
        refine j_bipush (pc := 65) X dX8_stepFor_65 kb_m14 ?_
        exact j_retW hR dX8_stepFor_67 hf
      exact lt_X8_stepFor_16 X hI Y hR N a1  k65_3 hk65_3 N _ _ hf
    · have hf := kF c2 hf
      refine j_bipush (pc := 11) X dX8_stepFor_11 kb_m11 ?_
      exact j_retW hR dX8_stepFor_13 hf
theorem c_X8_stepFor {l : Launch} {D : va_G} {cI cS : ClassId} {ad : Nat → Nat} (hI : kInj 132 ad) (N : Nat) (C : kS) (a1 : Int32) {r : Int32} {Cr : kS} (hf : f_X8_stepFor N C a1 = some (r, Cr)) : mW l yX8_stepFor wsX8_stepFor rm_X8_stepFor D cI cS (WC cI cS ad) (kAd 132 ad) C [.ref (ad 0), .int a1] r Cr :=
  mW.of (by decide) rfl rfl (Nat.le_of_ble_eq_true rfl) (WC_D hI) (fun g X Y hR => t_X8_stepFor X hI Y hR N C a1  hf)
abbrev rm_X8_type : Room := { frames := 2, cells := 0, slots := 0, locals := 43 }
theorem lk_X8_type_0 : Cond.fieldLink RX8 12 "BlackBars" "text" "LBlackBars$Text;" ∈ wsX8_type := List.mem_of_getElem? (i := 1) rfl
theorem iw_X8_type_X8 : ∀ w ∈ wsX80, w ∈ wsX8_type := fun _ h => List.mem_cons_of_mem _ (List.mem_append_left _ (List.mem_append_left _ (List.mem_append_right _ h)))
def f_X8_type (N : Nat) (C : kS) (a1 : Int32) : Option (Int32 × kS) := if a1 < 32 then some ((-11), C) else if a1 ≤ 126 then (f_X6_size N C).bind (fun r4 => if r4 < 200 then (f_X6_append N C a1).bind (fun C7 => (f_X6_size N C7).bind (fun r9 => some (r9, C7))) else some ((-13), C)) else some ((-11), C)
theorem hd_X8_type : kHd yX8_type 1 := by decide +kernel
set_option maxHeartbeats 4000000 in
set_option maxRecDepth 100000 in
theorem t_X8_type {g : kG} {cI cS : ClassId} {ad : Nat → Nat} (X : Kx g cI cS cX8_type RX8 wsX8_type 2 rm_X8_type) {r : Int32} {Cr : kS} (hI : kInj 132 ad) (Y : Kw g (WC cI cS ad) (kAd 132 ad)) (hR : kRI g (WC cI cS ad) 2 cX8_type .int Cr r) (N : Nat) (C : kS) (a1 : Int32)  (hf : f_X8_type N C a1 = some (r, Cr)) : J g (WC cI cS ad) 2 C 0 [some (.ref (ad 0)), some (.int a1)] [] := by
  unfold f_X8_type at hf
  refine j_iload_n (pc := 0) X dX8_type_0 rfl ?_
  refine j_bipush (pc := 1) X dX8_type_1 kb_32 ?_
  refine j_icmp_lt (tgt := 12) (pc := 3) X dX8_type_3 rfl (fun c1 => ?_) (fun c1 => ?_)
  · have hf := kT c1 hf
    refine j_bipush (pc := 12) X dX8_type_12 kb_m11 ?_
    exact j_retW hR dX8_type_14 hf
  · have hf := kF c1 hf
    refine j_iload_n (pc := 6) X dX8_type_6 rfl ?_
    refine j_bipush (pc := 7) X dX8_type_7 kb_126 ?_
    refine j_icmp_le (tgt := 15) (pc := 9) X dX8_type_9 rfl (fun c2 => ?_) (fun c2 => ?_)
    · have hf := kT c2 hf
      refine j_aload_n (pc := 15) X dX8_type_15 rfl ?_
      refine j_get (pc := 16) X iw_X8_type_X8 (wc8 kd_0) rfl 0 (Nat.le_of_ble_eq_true rfl) lk_X8_type_0 (v := .ref (ad 1)) rfl dX8_type_16 ?_
      obtain ⟨r4, h3, hf⟩ := kB hf
      refine j_callI (pc := 19) X (c_X6_size N C  h3) gX8_type_X6_size rfl ⟨rfl, rfl⟩ rfl hd_X6_size ⟨(Nat.le_of_ble_eq_true rfl), (Nat.le_of_ble_eq_true rfl)⟩ (wc6 kd_1) rfl rfl rfl (Nat.le_of_ble_eq_true rfl) rfl dX8_type_19 ?_
      refine j_sipush (pc := 22) X dX8_type_22 ks_200 ?_
      refine j_icmp_lt (tgt := 31) (pc := 25) X dX8_type_25 rfl (fun c5 => ?_) (fun c5 => ?_)
      · have hf := kT c5 hf
        refine j_aload_n (pc := 31) X dX8_type_31 rfl ?_
        refine j_get (pc := 32) X iw_X8_type_X8 (wc8 kd_0) rfl 0 (Nat.le_of_ble_eq_true rfl) lk_X8_type_0 (v := .ref (ad 1)) rfl dX8_type_32 ?_
        refine j_iload_n (pc := 35) X dX8_type_35 rfl ?_
        obtain ⟨C7, h6, hf⟩ := kB hf
        refine j_callV (pc := 36) X Y (c_X6_append hI N C a1 h6) gX8_type_X6_append rfl ⟨rfl, rfl⟩ rfl hd_X6_append ⟨(Nat.le_of_ble_eq_true rfl), (Nat.le_of_ble_eq_true rfl)⟩ (wc6 kd_1) rfl rfl rfl (Nat.le_of_ble_eq_true rfl) rfl dX8_type_36 ?_
        refine j_aload_n (pc := 39) X dX8_type_39 rfl ?_
        refine j_get (pc := 40) X iw_X8_type_X8 (wc8 kd_0) rfl 0 (Nat.le_of_ble_eq_true rfl) lk_X8_type_0 (v := .ref (ad 1)) rfl dX8_type_40 ?_
        obtain ⟨r9, h8, hf⟩ := kB hf
        refine j_callI (pc := 43) X (c_X6_size N C7  h8) gX8_type_X6_size rfl ⟨rfl, rfl⟩ rfl hd_X6_size ⟨(Nat.le_of_ble_eq_true rfl), (Nat.le_of_ble_eq_true rfl)⟩ (wc6 kd_1) rfl rfl rfl (Nat.le_of_ble_eq_true rfl) rfl dX8_type_43 ?_
        exact j_retW hR dX8_type_46 hf
      · have hf := kF c5 hf
        refine j_bipush (pc := 28) X dX8_type_28 kb_m13 ?_
        exact j_retW hR dX8_type_30 hf
    · have hf := kF c2 hf
      refine j_bipush (pc := 12) X dX8_type_12 kb_m11 ?_
      exact j_retW hR dX8_type_14 hf
theorem c_X8_type {l : Launch} {D : va_G} {cI cS : ClassId} {ad : Nat → Nat} (hI : kInj 132 ad) (N : Nat) (C : kS) (a1 : Int32) {r : Int32} {Cr : kS} (hf : f_X8_type N C a1 = some (r, Cr)) : mW l yX8_type wsX8_type rm_X8_type D cI cS (WC cI cS ad) (kAd 132 ad) C [.ref (ad 0), .int a1] r Cr :=
  mW.of (by decide) rfl rfl (Nat.le_of_ble_eq_true rfl) (WC_D hI) (fun g X Y hR => t_X8_type X hI Y hR N C a1  hf)
abbrev rm_X8_under : Room := { frames := 2, cells := 0, slots := 0, locals := 44 }
theorem lk_X8_under_0 : Cond.fieldLink RX8 42 "BlackBars" "bars" "LBlackBars$Bars;" ∈ wsX8_under := List.mem_of_getElem? (i := 1) rfl
theorem iw_X8_under_X8 : ∀ w ∈ wsX80, w ∈ wsX8_under := fun _ h => List.mem_cons_of_mem _ (List.mem_append_left _ (List.mem_append_left _ (List.mem_append_left _ (List.mem_append_right _ h))))
def f_X8_under (N : Nat) (C : kS) (a1 : Int32) : Option (Int32) := if a1 < 0 then some (-11) else if a1 ≤ 500 then (f_X0_namesUnder N C 113 a1).bind (fun r4 => some r4) else some (-11)
theorem hd_X8_under : kHd yX8_under 1 := by decide +kernel
set_option maxHeartbeats 4000000 in
set_option maxRecDepth 100000 in
theorem t_X8_under {g : kG} {cI cS : ClassId} {ad : Nat → Nat} {C : kS} (X : Kx g cI cS cX8_under RX8 wsX8_under 2 rm_X8_under) {r : Int32} (hR : kRI g (WC cI cS ad) 2 cX8_under .int C r) (N : Nat) (a1 : Int32)  (hf : f_X8_under N C a1 = some r) : J g (WC cI cS ad) 2 C 0 [some (.ref (ad 0)), some (.int a1)] [] := by
  unfold f_X8_under at hf
  refine j_iload_n (pc := 0) X dX8_under_0 rfl ?_
  refine j_if_lt (tgt := 11) (pc := 1) X dX8_under_1 rfl (fun c1 => ?_) (fun c1 => ?_)
  · have hf := kT c1 hf
    refine j_bipush (pc := 11) X dX8_under_11 kb_m11 ?_
    exact j_retI hR dX8_under_13 hf
  · have hf := kF c1 hf
    refine j_iload_n (pc := 4) X dX8_under_4 rfl ?_
    refine j_sipush (pc := 5) X dX8_under_5 ks_500 ?_
    refine j_icmp_le (tgt := 14) (pc := 8) X dX8_under_8 rfl (fun c2 => ?_) (fun c2 => ?_)
    · have hf := kT c2 hf
      refine j_aload_n (pc := 14) X dX8_under_14 rfl ?_
      refine j_get (pc := 15) X iw_X8_under_X8 (wc8 kd_0) rfl 4 (Nat.le_of_ble_eq_true rfl) lk_X8_under_0 (v := .ref (ad 113)) rfl dX8_under_15 ?_
      refine j_iload_n (pc := 18) X dX8_under_18 rfl ?_
      obtain ⟨r4, h3, hf⟩ := kB hf
      refine j_callI (pc := 19) X (c_X0_namesUnder N C 113 kd_113 a1 h3) gX8_under_X0_namesUnder rfl ⟨rfl, rfl⟩ rfl hd_X0_namesUnder ⟨(Nat.le_of_ble_eq_true rfl), (Nat.le_of_ble_eq_true rfl)⟩ (wc0 kd_113) rfl rfl rfl (Nat.le_of_ble_eq_true rfl) rfl dX8_under_19 ?_
      exact j_retI hR dX8_under_22 hf
    · have hf := kF c2 hf
      refine j_bipush (pc := 11) X dX8_under_11 kb_m11 ?_
      exact j_retI hR dX8_under_13 hf
theorem c_X8_under {l : Launch} {D : va_G} {cI cS : ClassId} {ad : Nat → Nat} (N : Nat) (C : kS) (a1 : Int32) {r : Int32} (hf : f_X8_under N C a1 = some r) : mI l yX8_under wsX8_under rm_X8_under D cI cS (WC cI cS ad) C [.ref (ad 0), .int a1] r :=
  mI.of (by decide) rfl rfl (Nat.le_of_ble_eq_true rfl) (fun g X hR => t_X8_under X  hR N a1  hf)
abbrev rm_X8_undo : Room := { frames := 5, cells := 0, slots := 0, locals := 125 }
theorem lk_X8_undo_0 : Cond.fieldLink RX8 26 "BlackBars" "history" "LBlackBars$History;" ∈ wsX8_undo := List.mem_of_getElem? (i := 1) rfl
theorem iw_X8_undo_X8 : ∀ w ∈ wsX80, w ∈ wsX8_undo := fun _ h => List.mem_cons_of_mem _ (List.mem_append_left _ (List.mem_append_left _ (List.mem_append_left _ (List.mem_append_left _ (List.mem_append_left _ (List.mem_append_left _ (List.mem_append_left _ (List.mem_append_right _ h))))))))
theorem lk_X8_undo_1 : Cond.fieldLink RX8 19 "BlackBars" "state" "LBlackBars$State;" ∈ wsX8_undo := List.mem_of_getElem? (i := 2) rfl
def f_X8_undo (N : Nat) (C : kS) : Option (Int32 × kS) := (f_X2_size N C).bind (fun r2 => if r2 = 0 then some ((-12), C) else (f_X2_restore N C).bind (fun C5 => (f_X8_workOut N C5).bind (fun C7 => (f_X2_size N C7).bind (fun r9 => some (r9, C7)))))
theorem hd_X8_undo : kHd yX8_undo 0 := by decide +kernel
set_option maxHeartbeats 4000000 in
set_option maxRecDepth 100000 in
theorem t_X8_undo {g : kG} {cI cS : ClassId} {ad : Nat → Nat} (X : Kx g cI cS cX8_undo RX8 wsX8_undo 1 rm_X8_undo) {r : Int32} {Cr : kS} (hI : kInj 132 ad) (Y : Kw g (WC cI cS ad) (kAd 132 ad)) (hR : kRI g (WC cI cS ad) 1 cX8_undo .int Cr r) (N : Nat) (C : kS)   (hf : f_X8_undo N C = some (r, Cr)) : J g (WC cI cS ad) 1 C 0 [some (.ref (ad 0))] [] := by
  unfold f_X8_undo at hf
  refine j_aload_n (pc := 0) X dX8_undo_0 rfl ?_
  refine j_get (pc := 1) X iw_X8_undo_X8 (wc8 kd_0) rfl 2 (Nat.le_of_ble_eq_true rfl) lk_X8_undo_0 (v := .ref (ad 24)) rfl dX8_undo_1 ?_
  obtain ⟨r2, h1, hf⟩ := kB hf
  refine j_callI (pc := 4) X (c_X2_size N C  h1) gX8_undo_X2_size rfl ⟨rfl, rfl⟩ rfl hd_X2_size ⟨(Nat.le_of_ble_eq_true rfl), (Nat.le_of_ble_eq_true rfl)⟩ (wc2 kd_24) rfl rfl rfl (Nat.le_of_ble_eq_true rfl) rfl dX8_undo_4 ?_
  refine j_if_ne (tgt := 13) (pc := 7) X dX8_undo_7 rfl (fun c3 => ?_) (fun c3 => ?_)
  · have hf := kF c3 hf
    refine j_aload_n (pc := 13) X dX8_undo_13 rfl ?_
    refine j_get (pc := 14) X iw_X8_undo_X8 (wc8 kd_0) rfl 2 (Nat.le_of_ble_eq_true rfl) lk_X8_undo_0 (v := .ref (ad 24)) rfl dX8_undo_14 ?_
    refine j_aload_n (pc := 17) X dX8_undo_17 rfl ?_
    refine j_get (pc := 18) X iw_X8_undo_X8 (wc8 kd_0) rfl 1 (Nat.le_of_ble_eq_true rfl) lk_X8_undo_1 (v := .ref (ad 4)) rfl dX8_undo_18 ?_
    obtain ⟨C5, h4, hf⟩ := kB hf
    refine j_callV (pc := 21) X Y (c_X2_restore hI N C  h4) gX8_undo_X2_restore rfl ⟨rfl, rfl⟩ rfl hd_X2_restore ⟨(Nat.le_of_ble_eq_true rfl), (Nat.le_of_ble_eq_true rfl)⟩ (wc2 kd_24) rfl rfl rfl (Nat.le_of_ble_eq_true rfl) rfl dX8_undo_21 ?_
    refine j_aload_n (pc := 24) X dX8_undo_24 rfl ?_
    obtain ⟨C7, h6, hf⟩ := kB hf
    refine j_callV (pc := 25) X Y (c_X8_workOut hI N C5  h6) gX8_undo_X8_workOut rfl ⟨rfl, rfl⟩ rfl hd_X8_workOut ⟨(Nat.le_of_ble_eq_true rfl), (Nat.le_of_ble_eq_true rfl)⟩ (wc8 kd_0) rfl rfl rfl (Nat.le_of_ble_eq_true rfl) rfl dX8_undo_25 ?_
    refine j_aload_n (pc := 28) X dX8_undo_28 rfl ?_
    refine j_get (pc := 29) X iw_X8_undo_X8 (wc8 kd_0) rfl 2 (Nat.le_of_ble_eq_true rfl) lk_X8_undo_0 (v := .ref (ad 24)) rfl dX8_undo_29 ?_
    obtain ⟨r9, h8, hf⟩ := kB hf
    refine j_callI (pc := 32) X (c_X2_size N C7  h8) gX8_undo_X2_size rfl ⟨rfl, rfl⟩ rfl hd_X2_size ⟨(Nat.le_of_ble_eq_true rfl), (Nat.le_of_ble_eq_true rfl)⟩ (wc2 kd_24) rfl rfl rfl (Nat.le_of_ble_eq_true rfl) rfl dX8_undo_32 ?_
    exact j_retW hR dX8_undo_35 hf
  · have hf := kT c3 hf
    refine j_bipush (pc := 10) X dX8_undo_10 kb_m12 ?_
    exact j_retW hR dX8_undo_12 hf
theorem c_X8_undo {l : Launch} {D : va_G} {cI cS : ClassId} {ad : Nat → Nat} (hI : kInj 132 ad) (N : Nat) (C : kS)  {r : Int32} {Cr : kS} (hf : f_X8_undo N C = some (r, Cr)) : mW l yX8_undo wsX8_undo rm_X8_undo D cI cS (WC cI cS ad) (kAd 132 ad) C [.ref (ad 0)] r Cr :=
  mW.of (by decide) rfl rfl (Nat.le_of_ble_eq_true rfl) (WC_D hI) (fun g X Y hR => t_X8_undo X hI Y hR N C   hf)
abbrev rm_X8_widen : Room := { frames := 5, cells := 0, slots := 0, locals := 125 }
theorem lk_X8_widen_0 : Cond.fieldLink RX8 19 "BlackBars" "state" "LBlackBars$State;" ∈ wsX8_widen := List.mem_of_getElem? (i := 1) rfl
theorem iw_X8_widen_X8 : ∀ w ∈ wsX80, w ∈ wsX8_widen := fun _ h => List.mem_cons_of_mem _ (List.mem_append_left _ (List.mem_append_left _ (List.mem_append_left _ (List.mem_append_left _ (List.mem_append_left _ (List.mem_append_left _ (List.mem_append_left _ (List.mem_append_right _ h))))))))
theorem iw_X8_widen_X5 : ∀ w ∈ wsX50, w ∈ wsX8_widen := fun _ h => List.mem_cons_of_mem _ (List.mem_append_left _ (List.mem_append_left _ (List.mem_append_left _ (List.mem_append_left _ (List.mem_append_left _ (List.mem_append_left _ (List.mem_append_right _ h)))))))
theorem lk_X8_widen_1 : Cond.fieldLink RX8 26 "BlackBars" "history" "LBlackBars$History;" ∈ wsX8_widen := List.mem_of_getElem? (i := 2) rfl
def f_X8_widen (N : Nat) (C : kS) (a1 : Int32) (a2 : Int32) : Option (Int32 × kS) := (f_X8_isLetter N a1).bind (fun r2 => if r2 = 0 then some ((-11), C) else if a2 < 1 then some ((-11), C) else if a2 ≤ 9 then (f_X3_at N C 20 (a1 - 97)).bind (fun r7 => (f_X2_keep N C).bind (fun C9 => (f_X3_put N C9 20 (a1 - 97) a2).bind (fun C11 => (f_X8_workOut N C11).bind (fun C13 => some (r7, C13))))) else some ((-11), C))
theorem hd_X8_widen : kHd yX8_widen 2 := by decide +kernel
set_option maxHeartbeats 4000000 in
set_option maxRecDepth 100000 in
theorem t_X8_widen {g : kG} {cI cS : ClassId} {ad : Nat → Nat} (X : Kx g cI cS cX8_widen RX8 wsX8_widen 4 rm_X8_widen) {r : Int32} {Cr : kS} (hI : kInj 132 ad) (Y : Kw g (WC cI cS ad) (kAd 132 ad)) (hR : kRI g (WC cI cS ad) 4 cX8_widen .int Cr r) (N : Nat) (C : kS) (a1 : Int32) (a2 : Int32)  (hf : f_X8_widen N C a1 a2 = some (r, Cr)) : J g (WC cI cS ad) 4 C 0 [some (.ref (ad 0)), some (.int a1), some (.int a2), none] [] := by
  unfold f_X8_widen at hf
  refine j_iload_n (pc := 0) X dX8_widen_0 rfl ?_
  obtain ⟨r2, h1, hf⟩ := kB hf
  refine j_callP (pc := 1) X (c_X8_isLetter N a1 h1) gX8_widen_X8_isLetter rfl ⟨rfl, rfl⟩ hd_X8_isLetter ⟨(Nat.le_of_ble_eq_true rfl), (Nat.le_of_ble_eq_true rfl)⟩ rfl (Nat.le_of_ble_eq_true rfl) rfl dX8_widen_1 ?_
  refine j_if_eq (tgt := 18) (pc := 4) X dX8_widen_4 rfl (fun c3 => ?_) (fun c3 => ?_)
  · have hf := kT c3 hf
    refine j_bipush (pc := 18) X dX8_widen_18 kb_m11 ?_
    exact j_retW hR dX8_widen_20 hf
  · have hf := kF c3 hf
    refine j_iload_n (pc := 7) X dX8_widen_7 rfl ?_
    refine j_iconst (pc := 8) X dX8_widen_8 kc_1 ?_
    refine j_icmp_lt (tgt := 18) (pc := 9) X dX8_widen_9 rfl (fun c4 => ?_) (fun c4 => ?_)
    · have hf := kT c4 hf
      refine j_bipush (pc := 18) X dX8_widen_18 kb_m11 ?_
      exact j_retW hR dX8_widen_20 hf
    · have hf := kF c4 hf
      refine j_iload_n (pc := 12) X dX8_widen_12 rfl ?_
      refine j_bipush (pc := 13) X dX8_widen_13 kb_9 ?_
      refine j_icmp_le (tgt := 21) (pc := 15) X dX8_widen_15 rfl (fun c5 => ?_) (fun c5 => ?_)
      · have hf := kT c5 hf
        refine j_aload_n (pc := 21) X dX8_widen_21 rfl ?_
        refine j_get (pc := 22) X iw_X8_widen_X8 (wc8 kd_0) rfl 1 (Nat.le_of_ble_eq_true rfl) lk_X8_widen_0 (v := .ref (ad 4)) rfl dX8_widen_22 ?_
        refine j_getN (pc := 25) X iw_X8_widen_X5 (wc5 kd_4) rfl 3 (Nat.le_of_ble_eq_true rfl) (List.mem_of_getElem? (i := 1) rfl) (v := .ref (ad 20)) rfl dX8_widen_25 ?_
        refine j_iload_n (pc := 28) X dX8_widen_28 rfl ?_
        refine j_bipush (pc := 29) X dX8_widen_29 kb_97 ?_
        refine j_isub (pc := 31) X dX8_widen_31 ?_
        obtain ⟨r7, h6, hf⟩ := kB hf
        refine j_callI (pc := 32) X (c_X3_at N C 20 (kd5_16 kd_4 : kd 20 = 3) (a1 - 97) h6) gX8_widen_X3_at rfl ⟨rfl, rfl⟩ rfl hd_X3_at ⟨(Nat.le_of_ble_eq_true rfl), (Nat.le_of_ble_eq_true rfl)⟩ (wc3 (kd5_16 kd_4 : kd 20 = 3)) rfl rfl rfl (Nat.le_of_ble_eq_true rfl) rfl dX8_widen_32 ?_
        refine j_istore_n (pc := 35) X dX8_widen_35 (Nat.le_of_ble_eq_true rfl) (lv' := [some (.ref (ad 0)), some (.int a1), some (.int a2), some (.int r7)]) rfl ?_
        refine j_aload_n (pc := 36) X dX8_widen_36 rfl ?_
        refine j_get (pc := 37) X iw_X8_widen_X8 (wc8 kd_0) rfl 2 (Nat.le_of_ble_eq_true rfl) lk_X8_widen_1 (v := .ref (ad 24)) rfl dX8_widen_37 ?_
        refine j_aload_n (pc := 40) X dX8_widen_40 rfl ?_
        refine j_get (pc := 41) X iw_X8_widen_X8 (wc8 kd_0) rfl 1 (Nat.le_of_ble_eq_true rfl) lk_X8_widen_0 (v := .ref (ad 4)) rfl dX8_widen_41 ?_
        obtain ⟨C9, h8, hf⟩ := kB hf
        refine j_callV (pc := 44) X Y (c_X2_keep hI N C  h8) gX8_widen_X2_keep rfl ⟨rfl, rfl⟩ rfl hd_X2_keep ⟨(Nat.le_of_ble_eq_true rfl), (Nat.le_of_ble_eq_true rfl)⟩ (wc2 kd_24) rfl rfl rfl (Nat.le_of_ble_eq_true rfl) rfl dX8_widen_44 ?_
        refine j_aload_n (pc := 47) X dX8_widen_47 rfl ?_
        refine j_get (pc := 48) X iw_X8_widen_X8 (wc8 kd_0) rfl 1 (Nat.le_of_ble_eq_true rfl) lk_X8_widen_0 (v := .ref (ad 4)) rfl dX8_widen_48 ?_
        refine j_getN (pc := 51) X iw_X8_widen_X5 (wc5 kd_4) rfl 3 (Nat.le_of_ble_eq_true rfl) (List.mem_of_getElem? (i := 1) rfl) (v := .ref (ad 20)) rfl dX8_widen_51 ?_
        refine j_iload_n (pc := 54) X dX8_widen_54 rfl ?_
        refine j_bipush (pc := 55) X dX8_widen_55 kb_97 ?_
        refine j_isub (pc := 57) X dX8_widen_57 ?_
        refine j_iload_n (pc := 58) X dX8_widen_58 rfl ?_
        obtain ⟨C11, h10, hf⟩ := kB hf
        refine j_callV (pc := 59) X Y (c_X3_put hI N C9 20 (kd5_16 kd_4 : kd 20 = 3) (a1 - 97) a2 h10) gX8_widen_X3_put rfl ⟨rfl, rfl⟩ rfl hd_X3_put ⟨(Nat.le_of_ble_eq_true rfl), (Nat.le_of_ble_eq_true rfl)⟩ (wc3 (kd5_16 kd_4 : kd 20 = 3)) rfl rfl rfl (Nat.le_of_ble_eq_true rfl) rfl dX8_widen_59 ?_
        refine j_aload_n (pc := 62) X dX8_widen_62 rfl ?_
        obtain ⟨C13, h12, hf⟩ := kB hf
        refine j_callV (pc := 63) X Y (c_X8_workOut hI N C11  h12) gX8_widen_X8_workOut rfl ⟨rfl, rfl⟩ rfl hd_X8_workOut ⟨(Nat.le_of_ble_eq_true rfl), (Nat.le_of_ble_eq_true rfl)⟩ (wc8 kd_0) rfl rfl rfl (Nat.le_of_ble_eq_true rfl) rfl dX8_widen_63 ?_
        refine j_iload_n (pc := 66) X dX8_widen_66 rfl ?_
        exact j_retW hR dX8_widen_67 hf
      · have hf := kF c5 hf
        refine j_bipush (pc := 18) X dX8_widen_18 kb_m11 ?_
        exact j_retW hR dX8_widen_20 hf
theorem c_X8_widen {l : Launch} {D : va_G} {cI cS : ClassId} {ad : Nat → Nat} (hI : kInj 132 ad) (N : Nat) (C : kS) (a1 : Int32) (a2 : Int32) {r : Int32} {Cr : kS} (hf : f_X8_widen N C a1 a2 = some (r, Cr)) : mW l yX8_widen wsX8_widen rm_X8_widen D cI cS (WC cI cS ad) (kAd 132 ad) C [.ref (ad 0), .int a1, .int a2] r Cr :=
  mW.of (by decide) rfl rfl (Nat.le_of_ble_eq_true rfl) (WC_D hI) (fun g X Y hR => t_X8_widen X hI Y hR N C a1 a2  hf)
abbrev rm_X8_widthAgain : Room := { frames := 2, cells := 0, slots := 0, locals := 42 }
theorem lk_X8_widthAgain_0 : Cond.fieldLink RX8 54 "BlackBars" "sheet" "LBlackBars$Sheet;" ∈ wsX8_widthAgain := List.mem_of_getElem? (i := 1) rfl
theorem iw_X8_widthAgain_X8 : ∀ w ∈ wsX80, w ∈ wsX8_widthAgain := fun _ h => List.mem_cons_of_mem _ (List.mem_append_left _ (List.mem_append_left _ (List.mem_append_left _ (List.mem_append_left _ (List.mem_append_right _ h)))))
def f_X8_widthAgain (N : Nat) (C : kS) (a1 : Int32) : Option (Int32) := (f_X4_hasLine N C a1).bind (fun r2 => if r2 = 0 then some (-11) else (f_X4_firstWordBehind N C a1).bind (fun r5 => (f_X4_placeOf N C (r5 - 1)).bind (fun r7 => (f_X4_shownWidthOf N C (r5 - 1)).bind (fun r9 => some (r7 + r9)))))
theorem hd_X8_widthAgain : kHd yX8_widthAgain 1 := by decide +kernel
set_option maxHeartbeats 4000000 in
set_option maxRecDepth 100000 in
theorem t_X8_widthAgain {g : kG} {cI cS : ClassId} {ad : Nat → Nat} {C : kS} (X : Kx g cI cS cX8_widthAgain RX8 wsX8_widthAgain 3 rm_X8_widthAgain) {r : Int32} (hR : kRI g (WC cI cS ad) 3 cX8_widthAgain .int C r) (N : Nat) (a1 : Int32)  (hf : f_X8_widthAgain N C a1 = some r) : J g (WC cI cS ad) 3 C 0 [some (.ref (ad 0)), some (.int a1), none] [] := by
  unfold f_X8_widthAgain at hf
  refine j_aload_n (pc := 0) X dX8_widthAgain_0 rfl ?_
  refine j_get (pc := 1) X iw_X8_widthAgain_X8 (wc8 kd_0) rfl 6 (Nat.le_of_ble_eq_true rfl) lk_X8_widthAgain_0 (v := .ref (ad 119)) rfl dX8_widthAgain_1 ?_
  refine j_iload_n (pc := 4) X dX8_widthAgain_4 rfl ?_
  obtain ⟨r2, h1, hf⟩ := kB hf
  refine j_callI (pc := 5) X (c_X4_hasLine N C a1 h1) gX8_widthAgain_X4_hasLine rfl ⟨rfl, rfl⟩ rfl hd_X4_hasLine ⟨(Nat.le_of_ble_eq_true rfl), (Nat.le_of_ble_eq_true rfl)⟩ (wc4 kd_119) rfl rfl rfl (Nat.le_of_ble_eq_true rfl) rfl dX8_widthAgain_5 ?_
  refine j_if_ne (tgt := 14) (pc := 8) X dX8_widthAgain_8 rfl (fun c3 => ?_) (fun c3 => ?_)
  · have hf := kF c3 hf
    refine j_aload_n (pc := 14) X dX8_widthAgain_14 rfl ?_
    refine j_get (pc := 15) X iw_X8_widthAgain_X8 (wc8 kd_0) rfl 6 (Nat.le_of_ble_eq_true rfl) lk_X8_widthAgain_0 (v := .ref (ad 119)) rfl dX8_widthAgain_15 ?_
    refine j_iload_n (pc := 18) X dX8_widthAgain_18 rfl ?_
    obtain ⟨r5, h4, hf⟩ := kB hf
    refine j_callI (pc := 19) X (c_X4_firstWordBehind N C a1 h4) gX8_widthAgain_X4_firstWordBehind rfl ⟨rfl, rfl⟩ rfl hd_X4_firstWordBehind ⟨(Nat.le_of_ble_eq_true rfl), (Nat.le_of_ble_eq_true rfl)⟩ (wc4 kd_119) rfl rfl rfl (Nat.le_of_ble_eq_true rfl) rfl dX8_widthAgain_19 ?_
    refine j_iconst (pc := 22) X dX8_widthAgain_22 kc_1 ?_
    refine j_isub (pc := 23) X dX8_widthAgain_23 ?_
    refine j_istore_n (pc := 24) X dX8_widthAgain_24 (Nat.le_of_ble_eq_true rfl) (lv' := [some (.ref (ad 0)), some (.int a1), some (.int (r5 - 1))]) rfl ?_
    refine j_aload_n (pc := 25) X dX8_widthAgain_25 rfl ?_
    refine j_get (pc := 26) X iw_X8_widthAgain_X8 (wc8 kd_0) rfl 6 (Nat.le_of_ble_eq_true rfl) lk_X8_widthAgain_0 (v := .ref (ad 119)) rfl dX8_widthAgain_26 ?_
    refine j_iload_n (pc := 29) X dX8_widthAgain_29 rfl ?_
    obtain ⟨r7, h6, hf⟩ := kB hf
    refine j_callI (pc := 30) X (c_X4_placeOf N C (r5 - 1) h6) gX8_widthAgain_X4_placeOf rfl ⟨rfl, rfl⟩ rfl hd_X4_placeOf ⟨(Nat.le_of_ble_eq_true rfl), (Nat.le_of_ble_eq_true rfl)⟩ (wc4 kd_119) rfl rfl rfl (Nat.le_of_ble_eq_true rfl) rfl dX8_widthAgain_30 ?_
    refine j_aload_n (pc := 33) X dX8_widthAgain_33 rfl ?_
    refine j_get (pc := 34) X iw_X8_widthAgain_X8 (wc8 kd_0) rfl 6 (Nat.le_of_ble_eq_true rfl) lk_X8_widthAgain_0 (v := .ref (ad 119)) rfl dX8_widthAgain_34 ?_
    refine j_iload_n (pc := 37) X dX8_widthAgain_37 rfl ?_
    obtain ⟨r9, h8, hf⟩ := kB hf
    refine j_callI (pc := 38) X (c_X4_shownWidthOf N C (r5 - 1) h8) gX8_widthAgain_X4_shownWidthOf rfl ⟨rfl, rfl⟩ rfl hd_X4_shownWidthOf ⟨(Nat.le_of_ble_eq_true rfl), (Nat.le_of_ble_eq_true rfl)⟩ (wc4 kd_119) rfl rfl rfl (Nat.le_of_ble_eq_true rfl) rfl dX8_widthAgain_38 ?_
    refine j_iadd (pc := 41) X dX8_widthAgain_41 ?_
    exact j_retI hR dX8_widthAgain_42 hf
  · have hf := kT c3 hf
    refine j_bipush (pc := 11) X dX8_widthAgain_11 kb_m11 ?_
    exact j_retI hR dX8_widthAgain_13 hf
theorem c_X8_widthAgain {l : Launch} {D : va_G} {cI cS : ClassId} {ad : Nat → Nat} (N : Nat) (C : kS) (a1 : Int32) {r : Int32} (hf : f_X8_widthAgain N C a1 = some r) : mI l yX8_widthAgain wsX8_widthAgain rm_X8_widthAgain D cI cS (WC cI cS ad) C [.ref (ad 0), .int a1] r :=
  mI.of (by decide) rfl rfl (Nat.le_of_ble_eq_true rfl) (fun g X hR => t_X8_widthAgain X  hR N a1  hf)
abbrev rm_X8_word : Room := { frames := 3, cells := 0, slots := 0, locals := 67 }
theorem lk_X8_word_0 : Cond.fieldLink RX8 19 "BlackBars" "state" "LBlackBars$State;" ∈ wsX8_word := List.mem_of_getElem? (i := 1) rfl
theorem iw_X8_word_X8 : ∀ w ∈ wsX80, w ∈ wsX8_word := fun _ h => List.mem_cons_of_mem _ (List.mem_append_left _ (List.mem_append_left _ (List.mem_append_left _ (List.mem_append_left _ (List.mem_append_left _ (List.mem_append_left _ (List.mem_append_right _ h)))))))
theorem iw_X8_word_X5 : ∀ w ∈ wsX50, w ∈ wsX8_word := fun _ h => List.mem_cons_of_mem _ (List.mem_append_left _ (List.mem_append_left _ (List.mem_append_left _ (List.mem_append_left _ (List.mem_append_left _ (List.mem_append_right _ h))))))
theorem lk_X8_word_1 : Cond.fieldLink RX8 54 "BlackBars" "sheet" "LBlackBars$Sheet;" ∈ wsX8_word := List.mem_of_getElem? (i := 2) rfl
def f_X8_word (N : Nat) (C : kS) (a1 : Int32) (a2 : Int32) : Option (Int32) := (f_X7_has N C 5 a1).bind (fun r2 => if r2 = 0 then some (-11) else if a2 < 0 then some (-11) else if a2 ≤ 9 then if a2 = 0 then (f_X7_lengthOf N C 5 a1).bind (fun r8 => some r8) else if a2 = 1 then (f_X4_ownWidthOf N C a1).bind (fun r11 => some r11) else if a2 = 2 then (f_X4_shownWidthOf N C a1).bind (fun r14 => some r14) else if a2 = 3 then (f_X4_isHidden N C a1).bind (fun r17 => jn (fun (t18 : Int32) => some t18) (fun j122_18 => if r17 = 0 then j122_18 0 else j122_18 1)) else if a2 = 4 then (f_X8_hiddenWord N C a1 a2).bind (fun r23 => some r23) else if a2 = 5 then (f_X8_hiddenWord N C a1 a2).bind (fun r26 => some r26) else if a2 = 6 then (f_X4_lineOf N C a1).bind (fun r29 => some r29) else if a2 = 7 then (f_X4_placeOf N C a1).bind (fun r32 => some r32) else (f_X8_hiddenWord N C a1 a2).bind (fun r34 => some r34) else some (-11))
theorem hd_X8_word : kHd yX8_word 2 := by decide +kernel
set_option maxHeartbeats 4000000 in
set_option maxRecDepth 100000 in
theorem t_X8_word {g : kG} {cI cS : ClassId} {ad : Nat → Nat} {C : kS} (X : Kx g cI cS cX8_word RX8 wsX8_word 3 rm_X8_word) {r : Int32} (hR : kRI g (WC cI cS ad) 3 cX8_word .int C r) (N : Nat) (a1 : Int32) (a2 : Int32)  (hf : f_X8_word N C a1 a2 = some r) : J g (WC cI cS ad) 3 C 0 [some (.ref (ad 0)), some (.int a1), some (.int a2)] [] := by
  unfold f_X8_word at hf
  refine j_aload_n (pc := 0) X dX8_word_0 rfl ?_
  refine j_get (pc := 1) X iw_X8_word_X8 (wc8 kd_0) rfl 1 (Nat.le_of_ble_eq_true rfl) lk_X8_word_0 (v := .ref (ad 4)) rfl dX8_word_1 ?_
  refine j_getN (pc := 4) X iw_X8_word_X5 (wc5 kd_4) rfl 0 (Nat.le_of_ble_eq_true rfl) (List.mem_of_getElem? (i := 3) rfl) (v := .ref (ad 5)) rfl dX8_word_4 ?_
  refine j_iload_n (pc := 7) X dX8_word_7 rfl ?_
  obtain ⟨r2, h1, hf⟩ := kB hf
  refine j_callI (pc := 8) X (c_X7_has N C 5 (kd5_1 kd_4 : kd 5 = 7) a1 h1) gX8_word_X7_has rfl ⟨rfl, rfl⟩ rfl hd_X7_has ⟨(Nat.le_of_ble_eq_true rfl), (Nat.le_of_ble_eq_true rfl)⟩ (wc7 (kd5_1 kd_4 : kd 5 = 7)) rfl rfl rfl (Nat.le_of_ble_eq_true rfl) rfl dX8_word_8 ?_
  refine j_if_eq (tgt := 24) (pc := 11) X dX8_word_11 rfl (fun c3 => ?_) (fun c3 => ?_)
  · have hf := kT c3 hf
    refine j_bipush (pc := 24) X dX8_word_24 kb_m11 ?_
    exact j_retI hR dX8_word_26 hf
  · have hf := kF c3 hf
    refine j_iload_n (pc := 14) X dX8_word_14 rfl ?_
    refine j_if_lt (tgt := 24) (pc := 15) X dX8_word_15 rfl (fun c4 => ?_) (fun c4 => ?_)
    · have hf := kT c4 hf
      refine j_bipush (pc := 24) X dX8_word_24 kb_m11 ?_
      exact j_retI hR dX8_word_26 hf
    · have hf := kF c4 hf
      refine j_iload_n (pc := 18) X dX8_word_18 rfl ?_
      refine j_bipush (pc := 19) X dX8_word_19 kb_9 ?_
      refine j_icmp_le (tgt := 27) (pc := 21) X dX8_word_21 rfl (fun c5 => ?_) (fun c5 => ?_)
      · have hf := kT c5 hf
        refine j_iload_n (pc := 27) X dX8_word_27 rfl ?_
        rcases Decidable.em (a2 = 0) with c6 | c6
        · have hf := kT c6 hf
          refine j_tabIn (v := 0) (off := 48) (tgt := 76) (pc := 28) X dX8_word_28 c6 (by decide) (by decide) (by decide) rfl ?_
          refine j_aload_n (pc := 76) X dX8_word_76 rfl ?_
          refine j_get (pc := 77) X iw_X8_word_X8 (wc8 kd_0) rfl 1 (Nat.le_of_ble_eq_true rfl) lk_X8_word_0 (v := .ref (ad 4)) rfl dX8_word_77 ?_
          refine j_getN (pc := 80) X iw_X8_word_X5 (wc5 kd_4) rfl 0 (Nat.le_of_ble_eq_true rfl) (List.mem_of_getElem? (i := 3) rfl) (v := .ref (ad 5)) rfl dX8_word_80 ?_
          refine j_iload_n (pc := 83) X dX8_word_83 rfl ?_
          obtain ⟨r8, h7, hf⟩ := kB hf
          refine j_callI (pc := 84) X (c_X7_lengthOf N C 5 (kd5_1 kd_4 : kd 5 = 7) a1 h7) gX8_word_X7_lengthOf rfl ⟨rfl, rfl⟩ rfl hd_X7_lengthOf ⟨(Nat.le_of_ble_eq_true rfl), (Nat.le_of_ble_eq_true rfl)⟩ (wc7 (kd5_1 kd_4 : kd 5 = 7)) rfl rfl rfl (Nat.le_of_ble_eq_true rfl) rfl dX8_word_84 ?_
          exact j_retI hR dX8_word_87 hf
        · have hf := kF c6 hf
          rcases Decidable.em (a2 = 1) with c9 | c9
          · have hf := kT c9 hf
            refine j_tabIn (v := 1) (off := 60) (tgt := 88) (pc := 28) X dX8_word_28 c9 (by decide) (by decide) (by decide) rfl ?_
            refine j_aload_n (pc := 88) X dX8_word_88 rfl ?_
            refine j_get (pc := 89) X iw_X8_word_X8 (wc8 kd_0) rfl 6 (Nat.le_of_ble_eq_true rfl) lk_X8_word_1 (v := .ref (ad 119)) rfl dX8_word_89 ?_
            refine j_iload_n (pc := 92) X dX8_word_92 rfl ?_
            obtain ⟨r11, h10, hf⟩ := kB hf
            refine j_callI (pc := 93) X (c_X4_ownWidthOf N C a1 h10) gX8_word_X4_ownWidthOf rfl ⟨rfl, rfl⟩ rfl hd_X4_ownWidthOf ⟨(Nat.le_of_ble_eq_true rfl), (Nat.le_of_ble_eq_true rfl)⟩ (wc4 kd_119) rfl rfl rfl (Nat.le_of_ble_eq_true rfl) rfl dX8_word_93 ?_
            exact j_retI hR dX8_word_96 hf
          · have hf := kF c9 hf
            rcases Decidable.em (a2 = 2) with c12 | c12
            · have hf := kT c12 hf
              refine j_tabIn (v := 2) (off := 69) (tgt := 97) (pc := 28) X dX8_word_28 c12 (by decide) (by decide) (by decide) rfl ?_
              refine j_aload_n (pc := 97) X dX8_word_97 rfl ?_
              refine j_get (pc := 98) X iw_X8_word_X8 (wc8 kd_0) rfl 6 (Nat.le_of_ble_eq_true rfl) lk_X8_word_1 (v := .ref (ad 119)) rfl dX8_word_98 ?_
              refine j_iload_n (pc := 101) X dX8_word_101 rfl ?_
              obtain ⟨r14, h13, hf⟩ := kB hf
              refine j_callI (pc := 102) X (c_X4_shownWidthOf N C a1 h13) gX8_word_X4_shownWidthOf rfl ⟨rfl, rfl⟩ rfl hd_X4_shownWidthOf ⟨(Nat.le_of_ble_eq_true rfl), (Nat.le_of_ble_eq_true rfl)⟩ (wc4 kd_119) rfl rfl rfl (Nat.le_of_ble_eq_true rfl) rfl dX8_word_102 ?_
              exact j_retI hR dX8_word_105 hf
            · have hf := kF c12 hf
              rcases Decidable.em (a2 = 3) with c15 | c15
              · have hf := kT c15 hf
                refine j_tabIn (v := 3) (off := 78) (tgt := 106) (pc := 28) X dX8_word_28 c15 (by decide) (by decide) (by decide) rfl ?_
                refine j_aload_n (pc := 106) X dX8_word_106 rfl ?_
                refine j_get (pc := 107) X iw_X8_word_X8 (wc8 kd_0) rfl 6 (Nat.le_of_ble_eq_true rfl) lk_X8_word_1 (v := .ref (ad 119)) rfl dX8_word_107 ?_
                refine j_iload_n (pc := 110) X dX8_word_110 rfl ?_
                obtain ⟨r17, h16, hf⟩ := kB hf
                refine j_callI (pc := 111) X (c_X4_isHidden N C a1 h16) gX8_word_X4_isHidden rfl ⟨rfl, rfl⟩ rfl hd_X4_isHidden ⟨(Nat.le_of_ble_eq_true rfl), (Nat.le_of_ble_eq_true rfl)⟩ (wc4 kd_119) rfl rfl rfl (Nat.le_of_ble_eq_true rfl) rfl dX8_word_111 ?_
                obtain ⟨j122_18, ej122_18, hf⟩ := jn_s hf
                have hj122_18 : ∀ (t18 : Int32), j122_18 t18 = some r → J g (WC cI cS ad) 3 C 122 [some (.ref (ad 0)), some (.int a1), some (.int a2)] [.int t18] := by
                  intro t18 hf
                  have hf := jE1 ej122_18 hf
                  exact j_retI hR dX8_word_122 hf
                refine j_if_eq (tgt := 121) (pc := 114) X dX8_word_114 rfl (fun c20 => ?_) (fun c20 => ?_)
                · have hf := kT c20 hf
                  refine j_iconst (pc := 121) X dX8_word_121 kc_0 ?_
                  exact hj122_18 _ hf
                · have hf := kF c20 hf
                  refine j_iconst (pc := 117) X dX8_word_117 kc_1 ?_
                  refine j_goto (tgt := 122) (pc := 118) X dX8_word_118 rfl ?_
                  exact hj122_18 _ hf
              · have hf := kF c15 hf
                rcases Decidable.em (a2 = 4) with c21 | c21
                · have hf := kT c21 hf
                  refine j_tabIn (v := 4) (off := 113) (tgt := 141) (pc := 28) X dX8_word_28 c21 (by decide) (by decide) (by decide) rfl ?_
                  refine j_aload_n (pc := 141) X dX8_word_141 rfl ?_
                  refine j_iload_n (pc := 142) X dX8_word_142 rfl ?_
                  refine j_iload_n (pc := 143) X dX8_word_143 rfl ?_
                  obtain ⟨r23, h22, hf⟩ := kB hf
                  refine j_callI (pc := 144) X (c_X8_hiddenWord N C a1 a2 h22) gX8_word_X8_hiddenWord rfl ⟨rfl, rfl⟩ rfl hd_X8_hiddenWord ⟨(Nat.le_of_ble_eq_true rfl), (Nat.le_of_ble_eq_true rfl)⟩ (wc8 kd_0) rfl rfl rfl (Nat.le_of_ble_eq_true rfl) rfl dX8_word_144 ?_
                  exact j_retI hR dX8_word_147 hf
                · have hf := kF c21 hf
                  rcases Decidable.em (a2 = 5) with c24 | c24
                  · have hf := kT c24 hf
                    refine j_tabIn (v := 5) (off := 113) (tgt := 141) (pc := 28) X dX8_word_28 c24 (by decide) (by decide) (by decide) rfl ?_
                    refine j_aload_n (pc := 141) X dX8_word_141 rfl ?_
                    refine j_iload_n (pc := 142) X dX8_word_142 rfl ?_
                    refine j_iload_n (pc := 143) X dX8_word_143 rfl ?_
                    obtain ⟨r26, h25, hf⟩ := kB hf
                    refine j_callI (pc := 144) X (c_X8_hiddenWord N C a1 a2 h25) gX8_word_X8_hiddenWord rfl ⟨rfl, rfl⟩ rfl hd_X8_hiddenWord ⟨(Nat.le_of_ble_eq_true rfl), (Nat.le_of_ble_eq_true rfl)⟩ (wc8 kd_0) rfl rfl rfl (Nat.le_of_ble_eq_true rfl) rfl dX8_word_144 ?_
                    exact j_retI hR dX8_word_147 hf
                  · have hf := kF c24 hf
                    rcases Decidable.em (a2 = 6) with c27 | c27
                    · have hf := kT c27 hf
                      refine j_tabIn (v := 6) (off := 95) (tgt := 123) (pc := 28) X dX8_word_28 c27 (by decide) (by decide) (by decide) rfl ?_
                      refine j_aload_n (pc := 123) X dX8_word_123 rfl ?_
                      refine j_get (pc := 124) X iw_X8_word_X8 (wc8 kd_0) rfl 6 (Nat.le_of_ble_eq_true rfl) lk_X8_word_1 (v := .ref (ad 119)) rfl dX8_word_124 ?_
                      refine j_iload_n (pc := 127) X dX8_word_127 rfl ?_
                      obtain ⟨r29, h28, hf⟩ := kB hf
                      refine j_callI (pc := 128) X (c_X4_lineOf N C a1 h28) gX8_word_X4_lineOf rfl ⟨rfl, rfl⟩ rfl hd_X4_lineOf ⟨(Nat.le_of_ble_eq_true rfl), (Nat.le_of_ble_eq_true rfl)⟩ (wc4 kd_119) rfl rfl rfl (Nat.le_of_ble_eq_true rfl) rfl dX8_word_128 ?_
                      exact j_retI hR dX8_word_131 hf
                    · have hf := kF c27 hf
                      rcases Decidable.em (a2 = 7) with c30 | c30
                      · have hf := kT c30 hf
                        refine j_tabIn (v := 7) (off := 104) (tgt := 132) (pc := 28) X dX8_word_28 c30 (by decide) (by decide) (by decide) rfl ?_
                        refine j_aload_n (pc := 132) X dX8_word_132 rfl ?_
                        refine j_get (pc := 133) X iw_X8_word_X8 (wc8 kd_0) rfl 6 (Nat.le_of_ble_eq_true rfl) lk_X8_word_1 (v := .ref (ad 119)) rfl dX8_word_133 ?_
                        refine j_iload_n (pc := 136) X dX8_word_136 rfl ?_
                        obtain ⟨r32, h31, hf⟩ := kB hf
                        refine j_callI (pc := 137) X (c_X4_placeOf N C a1 h31) gX8_word_X4_placeOf rfl ⟨rfl, rfl⟩ rfl hd_X4_placeOf ⟨(Nat.le_of_ble_eq_true rfl), (Nat.le_of_ble_eq_true rfl)⟩ (wc4 kd_119) rfl rfl rfl (Nat.le_of_ble_eq_true rfl) rfl dX8_word_137 ?_
                        exact j_retI hR dX8_word_140 hf
                      · have hf := kF c30 hf
                        refine j_tabOut (tgt := 141) (pc := 28) X dX8_word_28 (by have gc6 := lv_neT (a := 0) c6 (by decide); have gc9 := lv_neT (a := 1) c9 (by decide); have gc12 := lv_neT (a := 2) c12 (by decide); have gc15 := lv_neT (a := 3) c15 (by decide); have gc21 := lv_neT (a := 4) c21 (by decide); have gc24 := lv_neT (a := 5) c24 (by decide); have gc27 := lv_neT (a := 6) c27 (by decide); have gc30 := lv_neT (a := 7) c30 (by decide); omega) rfl ?_
                        refine j_aload_n (pc := 141) X dX8_word_141 rfl ?_
                        refine j_iload_n (pc := 142) X dX8_word_142 rfl ?_
                        refine j_iload_n (pc := 143) X dX8_word_143 rfl ?_
                        obtain ⟨r34, h33, hf⟩ := kB hf
                        refine j_callI (pc := 144) X (c_X8_hiddenWord N C a1 a2 h33) gX8_word_X8_hiddenWord rfl ⟨rfl, rfl⟩ rfl hd_X8_hiddenWord ⟨(Nat.le_of_ble_eq_true rfl), (Nat.le_of_ble_eq_true rfl)⟩ (wc8 kd_0) rfl rfl rfl (Nat.le_of_ble_eq_true rfl) rfl dX8_word_144 ?_
                        exact j_retI hR dX8_word_147 hf
      · have hf := kF c5 hf
        refine j_bipush (pc := 24) X dX8_word_24 kb_m11 ?_
        exact j_retI hR dX8_word_26 hf
theorem c_X8_word {l : Launch} {D : va_G} {cI cS : ClassId} {ad : Nat → Nat} (N : Nat) (C : kS) (a1 : Int32) (a2 : Int32) {r : Int32} (hf : f_X8_word N C a1 a2 = some r) : mI l yX8_word wsX8_word rm_X8_word D cI cS (WC cI cS ad) C [.ref (ad 0), .int a1, .int a2] r :=
  mI.of (by decide) rfl rfl (Nat.le_of_ble_eq_true rfl) (fun g X hR => t_X8_word X  hR N a1 a2  hf)
