abbrev rm_X4_wordsHiddenAs : Room := { frames := 2, cells := 0, slots := 0, locals := 42 }
theorem lk_X4_wordsHiddenAs_0 : Cond.fieldLink RX4 9 "BlackBars$Sheet" "state" "LBlackBars$State;" ∈ wsX4_wordsHiddenAs := List.mem_of_getElem? (i := 1) rfl
theorem iw_X4_wordsHiddenAs_X4 : ∀ w ∈ wsX40, w ∈ wsX4_wordsHiddenAs := fun _ h => List.mem_cons_of_mem _ (List.mem_append_left _ (List.mem_append_left _ (List.mem_append_left _ (List.mem_append_right _ h))))
theorem iw_X4_wordsHiddenAs_X5 : ∀ w ∈ wsX50, w ∈ wsX4_wordsHiddenAs := fun _ h => List.mem_cons_of_mem _ (List.mem_append_left _ (List.mem_append_left _ (List.mem_append_right _ h)))
def lp_X4_wordsHiddenAs_4 (N : Nat) (C : kS) (a1 : Int32) (k36_1 : Int32 → Option (Int32)) : Nat → Int32 → Int32 → Option (Int32)
  | 0, _, _ => none
  | n + 1, x3, x4 => (f_X7_size N C 5).bind (fun r6 => if r6 ≤ x4 then k36_1 x3 else (f_X4_formOf N C x4).bind (fun r9 => jn (fun (x10 : Int32) => lp_X4_wordsHiddenAs_4 N C a1 k36_1 n x10 (x4 + 1)) (fun j30_10 => if r9 = a1 then j30_10 (x3 + 1) else j30_10 x3)))
def f_X4_wordsHiddenAs (N : Nat) (C : kS) (a1 : Int32) : Option (Int32) := jn (fun (x1 : Int32) => some x1) (fun k36_1 => lp_X4_wordsHiddenAs_4 N C a1 k36_1 N 0 0)
theorem hd_X4_wordsHiddenAs : kHd yX4_wordsHiddenAs 1 := by decide +kernel
set_option maxHeartbeats 4000000 in
set_option maxRecDepth 100000 in
theorem lt_X4_wordsHiddenAs_4 {g : kG} {cI cS : ClassId} {ad : Nat → Nat} {C : kS} (X : Kx g cI cS cX4_wordsHiddenAs RX4 wsX4_wordsHiddenAs 4 rm_X4_wordsHiddenAs) {r : Int32} (hR : kRI g (WC cI cS ad) 4 cX4_wordsHiddenAs .int C r) (N : Nat) (a1 : Int32)  (k36_1 : Int32 → Option (Int32)) (hk36_1 : ∀ (x1 : Int32), k36_1 x1 = some r → J g (WC cI cS ad) 4 C 36 [some (.ref (ad 119)), some (.int a1), some (.int x1), none] []) : ∀ (n : Nat) (x3 : Int32) (x4 : Int32), lp_X4_wordsHiddenAs_4 N C a1 k36_1 n x3 x4 = some r → J g (WC cI cS ad) 4 C 4 [some (.ref (ad 119)), some (.int a1), some (.int x3), some (.int x4)] [] := by
  intro n
  induction n with
  | zero =>
    intro x3 x4 hf
    rw [lp_X4_wordsHiddenAs_4] at hf
    cases hf
  | succ n ih =>
    intro x3 x4 hf
    rw [lp_X4_wordsHiddenAs_4] at hf
    refine j_iload_n (pc := 4) X dX4_wordsHiddenAs_4 rfl ?_
    refine j_aload_n (pc := 5) X dX4_wordsHiddenAs_5 rfl ?_
    refine j_get (pc := 6) X iw_X4_wordsHiddenAs_X4 (wc4 kd_119) rfl 0 (Nat.le_of_ble_eq_true rfl) lk_X4_wordsHiddenAs_0 (v := .ref (ad 4)) rfl dX4_wordsHiddenAs_6 ?_
    refine j_getN (pc := 9) X iw_X4_wordsHiddenAs_X5 (wc5 kd_4) rfl 0 (Nat.le_of_ble_eq_true rfl) (List.mem_of_getElem? (i := 7) rfl) (v := .ref (ad 5)) rfl dX4_wordsHiddenAs_9 ?_
    obtain ⟨r6, h5, hf⟩ := kB hf
    refine j_callI (pc := 12) X (c_X7_size N C 5 (kd5_1 kd_4 : kd 5 = 7) h5) gX4_wordsHiddenAs_X7_size rfl ⟨rfl, rfl⟩ rfl hd_X7_size ⟨(Nat.le_of_ble_eq_true rfl), (Nat.le_of_ble_eq_true rfl)⟩ (wc7 (kd5_1 kd_4 : kd 5 = 7)) rfl rfl rfl (Nat.le_of_ble_eq_true rfl) rfl dX4_wordsHiddenAs_12 ?_
    refine j_icmp_ge (tgt := 36) (pc := 15) X dX4_wordsHiddenAs_15 rfl (fun c7 => ?_) (fun c7 => ?_)
    · have hf := kT c7 hf
      refine j_weak (lv' := [some (.ref (ad 119)), some (.int a1), some (.int x3), none]) (And.intro rfl (And.intro rfl (And.intro rfl trivial))) ?_
      exact hk36_1 _ hf
    · have hf := kF c7 hf
      refine j_aload_n (pc := 18) X dX4_wordsHiddenAs_18 rfl ?_
      refine j_iload_n (pc := 19) X dX4_wordsHiddenAs_19 rfl ?_
      obtain ⟨r9, h8, hf⟩ := kB hf
      refine j_callI (pc := 20) X (c_X4_formOf N C x4 h8) gX4_wordsHiddenAs_X4_formOf rfl ⟨rfl, rfl⟩ rfl hd_X4_formOf ⟨(Nat.le_of_ble_eq_true rfl), (Nat.le_of_ble_eq_true rfl)⟩ (wc4 kd_119) rfl rfl rfl (Nat.le_of_ble_eq_true rfl) rfl dX4_wordsHiddenAs_20 ?_
      refine j_iload_n (pc := 23) X dX4_wordsHiddenAs_23 rfl ?_
      obtain ⟨j30_10, ej30_10, hf⟩ := jn_s hf
      have hj30_10 : ∀ (x10 : Int32), j30_10 x10 = some r → J g (WC cI cS ad) 4 C 30 [some (.ref (ad 119)), some (.int a1), some (.int x10), some (.int x4)] [] := by
        intro x10 hf
        have hf := jE1 ej30_10 hf
        refine j_iinc (pc := 30) X dX4_wordsHiddenAs_30 rfl (v := x4 + 1) (by rw [kc_1]) (Nat.le_of_ble_eq_true rfl) (lv' := [some (.ref (ad 119)), some (.int a1), some (.int x10), some (.int (x4 + 1))]) rfl ?_
        refine j_goto (tgt := 4) (pc := 33) X dX4_wordsHiddenAs_33 rfl ?_
        exact ih _ _ hf
      refine j_icmp_ne (tgt := 30) (pc := 24) X dX4_wordsHiddenAs_24 rfl (fun c12 => ?_) (fun c12 => ?_)
      · have hf := kF c12 hf
        exact hj30_10 _ hf
      · have hf := kT c12 hf
        refine j_iinc (pc := 27) X dX4_wordsHiddenAs_27 rfl (v := x3 + 1) (by rw [kc_1]) (Nat.le_of_ble_eq_true rfl) (lv' := [some (.ref (ad 119)), some (.int a1), some (.int (x3 + 1)), some (.int x4)]) rfl ?_
        exact hj30_10 _ hf
set_option maxHeartbeats 4000000 in
set_option maxRecDepth 100000 in
theorem t_X4_wordsHiddenAs {g : kG} {cI cS : ClassId} {ad : Nat → Nat} {C : kS} (X : Kx g cI cS cX4_wordsHiddenAs RX4 wsX4_wordsHiddenAs 4 rm_X4_wordsHiddenAs) {r : Int32} (hR : kRI g (WC cI cS ad) 4 cX4_wordsHiddenAs .int C r) (N : Nat) (a1 : Int32)  (hf : f_X4_wordsHiddenAs N C a1 = some r) : J g (WC cI cS ad) 4 C 0 [some (.ref (ad 119)), some (.int a1), none, none] [] := by
  unfold f_X4_wordsHiddenAs at hf
  refine j_iconst (pc := 0) X dX4_wordsHiddenAs_0 kc_0 ?_
  refine j_istore_n (pc := 1) X dX4_wordsHiddenAs_1 (Nat.le_of_ble_eq_true rfl) (lv' := [some (.ref (ad 119)), some (.int a1), some (.int 0), none]) rfl ?_
  refine j_iconst (pc := 2) X dX4_wordsHiddenAs_2 kc_0 ?_
  refine j_istore_n (pc := 3) X dX4_wordsHiddenAs_3 (Nat.le_of_ble_eq_true rfl) (lv' := [some (.ref (ad 119)), some (.int a1), some (.int 0), some (.int 0)]) rfl ?_
  obtain ⟨k36_1, ek36_1, hf⟩ := jn_s hf
  have hk36_1 : ∀ (x1 : Int32), k36_1 x1 = some r → J g (WC cI cS ad) 4 C 36 [some (.ref (ad 119)), some (.int a1), some (.int x1), none] [] := by
    intro x1 hf
    have hf := jE1 ek36_1 hf
    refine j_iload_n (pc := 36) X dX4_wordsHiddenAs_36 rfl ?_
    exact j_retI hR dX4_wordsHiddenAs_37 hf
  exact lt_X4_wordsHiddenAs_4 X hR N a1   k36_1 hk36_1 N _ _ hf
theorem c_X4_wordsHiddenAs {l : Launch} {D : va_G} {cI cS : ClassId} {ad : Nat → Nat} (N : Nat) (C : kS) (a1 : Int32) {r : Int32} (hf : f_X4_wordsHiddenAs N C a1 = some r) : mI l yX4_wordsHiddenAs wsX4_wordsHiddenAs rm_X4_wordsHiddenAs D cI cS (WC cI cS ad) C [.ref (ad 119), .int a1] r :=
  mI.of (by decide) rfl rfl (Nat.le_of_ble_eq_true rfl) (fun g X hR => t_X4_wordsHiddenAs X  hR N a1  hf)
abbrev rm_X5_lengthOfForm : Room := { frames := 2, cells := 0, slots := 0, locals := 42 }
theorem lk_X5_lengthOfForm_0 : Cond.fieldLink RX5 20 "BlackBars$State" "names" "LBlackBars$Words;" ∈ wsX5_lengthOfForm := List.mem_of_getElem? (i := 1) rfl
theorem iw_X5_lengthOfForm_X5 : ∀ w ∈ wsX50, w ∈ wsX5_lengthOfForm := fun _ h => List.mem_cons_of_mem _ (List.mem_append_left _ (List.mem_append_left _ (List.mem_append_right _ h)))
theorem lk_X5_lengthOfForm_1 : Cond.fieldLink RX5 23 "BlackBars$State" "endings" "LBlackBars$Words;" ∈ wsX5_lengthOfForm := List.mem_of_getElem? (i := 2) rfl
def f_X5_lengthOfForm (N : Nat) (C : kS) (a1 : Int32) (a2 : Int32) : Option (Int32) := (f_X7_lengthOf N C 10 a1).bind (fun r2 => (f_X7_lengthOf N C 15 a2).bind (fun r4 => some (r2 + r4)))
theorem hd_X5_lengthOfForm : kHd yX5_lengthOfForm 2 := by decide +kernel
set_option maxHeartbeats 4000000 in
set_option maxRecDepth 100000 in
theorem t_X5_lengthOfForm {g : kG} {cI cS : ClassId} {ad : Nat → Nat} {C : kS} (X : Kx g cI cS cX5_lengthOfForm RX5 wsX5_lengthOfForm 3 rm_X5_lengthOfForm) {r : Int32} (hR : kRI g (WC cI cS ad) 3 cX5_lengthOfForm .int C r) (N : Nat) (a1 : Int32) (a2 : Int32)  (hf : f_X5_lengthOfForm N C a1 a2 = some r) : J g (WC cI cS ad) 3 C 0 [some (.ref (ad 4)), some (.int a1), some (.int a2)] [] := by
  unfold f_X5_lengthOfForm at hf
  refine j_aload_n (pc := 0) X dX5_lengthOfForm_0 rfl ?_
  refine j_get (pc := 1) X iw_X5_lengthOfForm_X5 (wc5 kd_4) rfl 1 (Nat.le_of_ble_eq_true rfl) lk_X5_lengthOfForm_0 (v := .ref (ad 10)) rfl dX5_lengthOfForm_1 ?_
  refine j_iload_n (pc := 4) X dX5_lengthOfForm_4 rfl ?_
  obtain ⟨r2, h1, hf⟩ := kB hf
  refine j_callI (pc := 5) X (c_X7_lengthOf N C 10 (kd5_6 kd_4 : kd 10 = 7) a1 h1) gX5_lengthOfForm_X7_lengthOf rfl ⟨rfl, rfl⟩ rfl hd_X7_lengthOf ⟨(Nat.le_of_ble_eq_true rfl), (Nat.le_of_ble_eq_true rfl)⟩ (wc7 (kd5_6 kd_4 : kd 10 = 7)) rfl rfl rfl (Nat.le_of_ble_eq_true rfl) rfl dX5_lengthOfForm_5 ?_
  refine j_aload_n (pc := 8) X dX5_lengthOfForm_8 rfl ?_
  refine j_get (pc := 9) X iw_X5_lengthOfForm_X5 (wc5 kd_4) rfl 2 (Nat.le_of_ble_eq_true rfl) lk_X5_lengthOfForm_1 (v := .ref (ad 15)) rfl dX5_lengthOfForm_9 ?_
  refine j_iload_n (pc := 12) X dX5_lengthOfForm_12 rfl ?_
  obtain ⟨r4, h3, hf⟩ := kB hf
  refine j_callI (pc := 13) X (c_X7_lengthOf N C 15 (kd5_11 kd_4 : kd 15 = 7) a2 h3) gX5_lengthOfForm_X7_lengthOf rfl ⟨rfl, rfl⟩ rfl hd_X7_lengthOf ⟨(Nat.le_of_ble_eq_true rfl), (Nat.le_of_ble_eq_true rfl)⟩ (wc7 (kd5_11 kd_4 : kd 15 = 7)) rfl rfl rfl (Nat.le_of_ble_eq_true rfl) rfl dX5_lengthOfForm_13 ?_
  refine j_iadd (pc := 16) X dX5_lengthOfForm_16 ?_
  exact j_retI hR dX5_lengthOfForm_17 hf
theorem c_X5_lengthOfForm {l : Launch} {D : va_G} {cI cS : ClassId} {ad : Nat → Nat} (N : Nat) (C : kS) (a1 : Int32) (a2 : Int32) {r : Int32} (hf : f_X5_lengthOfForm N C a1 a2 = some r) : mI l yX5_lengthOfForm wsX5_lengthOfForm rm_X5_lengthOfForm D cI cS (WC cI cS ad) C [.ref (ad 4), .int a1, .int a2] r :=
  mI.of (by decide) rfl rfl (Nat.le_of_ble_eq_true rfl) (fun g X hR => t_X5_lengthOfForm X  hR N a1 a2  hf)
abbrev rm_X6_append : Room := { frames := 1, cells := 0, slots := 0, locals := 22 }
theorem lk_X6_append_0 : Cond.fieldLink RX6 20 "BlackBars$Text" "length" "I" ∈ wsX6_append := List.mem_of_getElem? (i := 1) rfl
theorem iw_X6_append_X6 : ∀ w ∈ wsX60, w ∈ wsX6_append := fun _ h => List.mem_cons_of_mem _ (List.mem_append_left _ (List.mem_append_right _ h))
theorem lk_X6_append_1 : Cond.fieldLink RX6 14 "BlackBars$Text" "characters" "LBlackBars$Row;" ∈ wsX6_append := List.mem_of_getElem? (i := 2) rfl
def f_X6_append (N : Nat) (C : kS) (a1 : Int32) : Option (kS) := if 200 ≤ (C 1 1) then some C else (f_X3_put N C 2 (C 1 1) a1).bind (fun C3 => jn (up1 C3 1 (upd (C3 1) 1 ((C3 1 1) + 1))) (fun C4 : kS => some C4))
theorem hd_X6_append : kHd yX6_append 1 := by decide +kernel
set_option maxHeartbeats 4000000 in
set_option maxRecDepth 100000 in
theorem t_X6_append {g : kG} {cI cS : ClassId} {ad : Nat → Nat} (X : Kx g cI cS cX6_append RX6 wsX6_append 2 rm_X6_append) {Cr : kS} (hI : kInj 132 ad) (Y : Kw g (WC cI cS ad) (kAd 132 ad)) (hR : kRV g (WC cI cS ad) 2 cX6_append Cr) (N : Nat) (C : kS) (a1 : Int32)  (hf : f_X6_append N C a1 = some Cr) : J g (WC cI cS ad) 2 C 0 [some (.ref (ad 1)), some (.int a1)] [] := by
  unfold f_X6_append at hf
  refine j_aload_n (pc := 0) X dX6_append_0 rfl ?_
  refine j_get (pc := 1) X iw_X6_append_X6 (wc6 kd_1) rfl 1 (Nat.le_of_ble_eq_true rfl) lk_X6_append_0 (v := .int (C 1 1)) rfl dX6_append_1 ?_
  refine j_sipush (pc := 4) X dX6_append_4 ks_200 ?_
  refine j_icmp_ge (tgt := 32) (pc := 7) X dX6_append_7 rfl (fun c1 => ?_) (fun c1 => ?_)
  · have hf := kT c1 hf
    exact j_retV hR dX6_append_32 hf
  · have hf := kF c1 hf
    refine j_aload_n (pc := 10) X dX6_append_10 rfl ?_
    refine j_get (pc := 11) X iw_X6_append_X6 (wc6 kd_1) rfl 0 (Nat.le_of_ble_eq_true rfl) lk_X6_append_1 (v := .ref (ad 2)) rfl dX6_append_11 ?_
    refine j_aload_n (pc := 14) X dX6_append_14 rfl ?_
    refine j_get (pc := 15) X iw_X6_append_X6 (wc6 kd_1) rfl 1 (Nat.le_of_ble_eq_true rfl) lk_X6_append_0 (v := .int (C 1 1)) rfl dX6_append_15 ?_
    refine j_iload_n (pc := 18) X dX6_append_18 rfl ?_
    obtain ⟨C3, h2, hf⟩ := kB hf
    refine j_callV (pc := 19) X Y (c_X3_put hI N C 2 kd_2 (C 1 1) a1 h2) gX6_append_X3_put rfl ⟨rfl, rfl⟩ rfl hd_X3_put ⟨(Nat.le_of_ble_eq_true rfl), (Nat.le_of_ble_eq_true rfl)⟩ (wc3 kd_2) rfl rfl rfl (Nat.le_of_ble_eq_true rfl) rfl dX6_append_19 ?_
    refine j_aload_n (pc := 22) X dX6_append_22 rfl ?_
    refine j_dup (pc := 23) X dX6_append_23 rfl ?_
    refine j_get (pc := 24) X iw_X6_append_X6 (wc6 kd_1) rfl 1 (Nat.le_of_ble_eq_true rfl) lk_X6_append_0 (v := .int (C3 1 1)) rfl dX6_append_24 ?_
    refine j_iconst (pc := 27) X dX6_append_27 kc_1 ?_
    refine j_iadd (pc := 28) X dX6_append_28 ?_
    obtain ⟨C4, eC4, hf⟩ := jn_s hf
    refine j_put (C' := C4) (pc := 29) X Y iw_X6_append_X6 tyX6 tyX6_ok nmX6 (wc6 kd_1) rfl 1 (Nat.le_of_ble_eq_true rfl) lk_X6_append_0 rfl (tyX6_ok 1 (Nat.le_of_ble_eq_true rfl)) (Nat.le_of_ble_eq_true rfl) dX6_append_29 (by rw [eC4]; exact sc6_1 kd_1 _) ?_
    exact j_retV hR dX6_append_32 hf
theorem c_X6_append {l : Launch} {D : va_G} {cI cS : ClassId} {ad : Nat → Nat} (hI : kInj 132 ad) (N : Nat) (C : kS) (a1 : Int32) {Cr : kS} (hf : f_X6_append N C a1 = some Cr) : mV l yX6_append wsX6_append rm_X6_append D cI cS (WC cI cS ad) (kAd 132 ad) C [.ref (ad 1), .int a1] Cr :=
  mV.of (by decide) rfl rfl (Nat.le_of_ble_eq_true rfl) (WC_D hI) (fun g X Y hR => t_X6_append X hI Y hR N C a1  hf)
abbrev rm_X6_at : Room := { frames := 1, cells := 0, slots := 0, locals := 21 }
theorem lk_X6_at_0 : Cond.fieldLink RX6 14 "BlackBars$Text" "characters" "LBlackBars$Row;" ∈ wsX6_at := List.mem_of_getElem? (i := 1) rfl
theorem iw_X6_at_X6 : ∀ w ∈ wsX60, w ∈ wsX6_at := fun _ h => List.mem_cons_of_mem _ (List.mem_append_left _ (List.mem_append_right _ h))
def f_X6_at (N : Nat) (C : kS) (a1 : Int32) : Option (Int32) := (f_X3_at N C 2 a1).bind (fun r2 => some r2)
theorem hd_X6_at : kHd yX6_at 1 := by decide +kernel
set_option maxHeartbeats 4000000 in
set_option maxRecDepth 100000 in
theorem t_X6_at {g : kG} {cI cS : ClassId} {ad : Nat → Nat} {C : kS} (X : Kx g cI cS cX6_at RX6 wsX6_at 2 rm_X6_at) {r : Int32} (hR : kRI g (WC cI cS ad) 2 cX6_at .int C r) (N : Nat) (a1 : Int32)  (hf : f_X6_at N C a1 = some r) : J g (WC cI cS ad) 2 C 0 [some (.ref (ad 1)), some (.int a1)] [] := by
  unfold f_X6_at at hf
  refine j_aload_n (pc := 0) X dX6_at_0 rfl ?_
  refine j_get (pc := 1) X iw_X6_at_X6 (wc6 kd_1) rfl 0 (Nat.le_of_ble_eq_true rfl) lk_X6_at_0 (v := .ref (ad 2)) rfl dX6_at_1 ?_
  refine j_iload_n (pc := 4) X dX6_at_4 rfl ?_
  obtain ⟨r2, h1, hf⟩ := kB hf
  refine j_callI (pc := 5) X (c_X3_at N C 2 kd_2 a1 h1) gX6_at_X3_at rfl ⟨rfl, rfl⟩ rfl hd_X3_at ⟨(Nat.le_of_ble_eq_true rfl), (Nat.le_of_ble_eq_true rfl)⟩ (wc3 kd_2) rfl rfl rfl (Nat.le_of_ble_eq_true rfl) rfl dX6_at_5 ?_
  exact j_retI hR dX6_at_8 hf
theorem c_X6_at {l : Launch} {D : va_G} {cI cS : ClassId} {ad : Nat → Nat} (N : Nat) (C : kS) (a1 : Int32) {r : Int32} (hf : f_X6_at N C a1 = some r) : mI l yX6_at wsX6_at rm_X6_at D cI cS (WC cI cS ad) C [.ref (ad 1), .int a1] r :=
  mI.of (by decide) rfl rfl (Nat.le_of_ble_eq_true rfl) (fun g X hR => t_X6_at X  hR N a1  hf)
abbrev rm_X6_empty : Room := { frames := 0, cells := 0, slots := 0, locals := 0 }
theorem lk_X6_empty_0 : Cond.fieldLink RX6 20 "BlackBars$Text" "length" "I" ∈ wsX6_empty := List.mem_of_getElem? (i := 1) rfl
theorem iw_X6_empty_X6 : ∀ w ∈ wsX60, w ∈ wsX6_empty := fun _ h => List.mem_cons_of_mem _ (List.mem_append_right _ h)
def f_X6_empty (N : Nat) (C : kS) : Option (kS) := jn (up1 C 1 (upd (C 1) 1 0)) (fun C1 : kS => some C1)
theorem hd_X6_empty : kHd yX6_empty 0 := by decide +kernel
set_option maxHeartbeats 4000000 in
set_option maxRecDepth 100000 in
theorem t_X6_empty {g : kG} {cI cS : ClassId} {ad : Nat → Nat} (X : Kx g cI cS cX6_empty RX6 wsX6_empty 1 rm_X6_empty) {Cr : kS} (hI : kInj 132 ad) (Y : Kw g (WC cI cS ad) (kAd 132 ad)) (hR : kRV g (WC cI cS ad) 1 cX6_empty Cr) (N : Nat) (C : kS)   (hf : f_X6_empty N C = some Cr) : J g (WC cI cS ad) 1 C 0 [some (.ref (ad 1))] [] := by
  unfold f_X6_empty at hf
  refine j_aload_n (pc := 0) X dX6_empty_0 rfl ?_
  refine j_iconst (pc := 1) X dX6_empty_1 kc_0 ?_
  obtain ⟨C1, eC1, hf⟩ := jn_s hf
  refine j_put (C' := C1) (pc := 2) X Y iw_X6_empty_X6 tyX6 tyX6_ok nmX6 (wc6 kd_1) rfl 1 (Nat.le_of_ble_eq_true rfl) lk_X6_empty_0 rfl (tyX6_ok 1 (Nat.le_of_ble_eq_true rfl)) (Nat.le_of_ble_eq_true rfl) dX6_empty_2 (by rw [eC1]; exact sc6_1 kd_1 _) ?_
  exact j_retV hR dX6_empty_5 hf
theorem c_X6_empty {l : Launch} {D : va_G} {cI cS : ClassId} {ad : Nat → Nat} (hI : kInj 132 ad) (N : Nat) (C : kS)  {Cr : kS} (hf : f_X6_empty N C = some Cr) : mV l yX6_empty wsX6_empty rm_X6_empty D cI cS (WC cI cS ad) (kAd 132 ad) C [.ref (ad 1)] Cr :=
  mV.of (by decide) rfl rfl (Nat.le_of_ble_eq_true rfl) (WC_D hI) (fun g X Y hR => t_X6_empty X hI Y hR N C   hf)
abbrev rm_X8_isLetter : Room := { frames := 0, cells := 0, slots := 0, locals := 0 }
def f_X8_isLetter (N : Nat) (a0 : Int32) : Option (Int32) := jn (fun (t1 : Int32) => some (t1 &&& 1)) (fun j17_1 => if a0 < 97 then j17_1 0 else if 122 < a0 then j17_1 0 else j17_1 1)
theorem hd_X8_isLetter : kHd yX8_isLetter 1 := by decide +kernel
set_option maxHeartbeats 4000000 in
set_option maxRecDepth 100000 in
theorem t_X8_isLetter {g : kG} {cI cS : ClassId} (X : Kx g cI cS cX8_isLetter RX8 wsX8_isLetter 1 rm_X8_isLetter) {r : Int32} (hR : kRI g kWe 1 cX8_isLetter .boolean kC0 r) (N : Nat) (a0 : Int32)  (hf : f_X8_isLetter N a0 = some r) : J g kWe 1 kC0 0 [some (.int a0)] [] := by
  unfold f_X8_isLetter at hf
  refine j_iload_n (pc := 0) X dX8_isLetter_0 rfl ?_
  refine j_bipush (pc := 1) X dX8_isLetter_1 kb_97 ?_
  obtain ⟨j17_1, ej17_1, hf⟩ := jn_s hf
  have hj17_1 : ∀ (t1 : Int32), j17_1 t1 = some r → J g kWe 1 kC0 17 [some (.int a0)] [.int t1] := by
    intro t1 hf
    have hf := jE1 ej17_1 hf
    exact j_retB hR dX8_isLetter_17 hf
  refine j_icmp_lt (tgt := 16) (pc := 3) X dX8_isLetter_3 rfl (fun c3 => ?_) (fun c3 => ?_)
  · have hf := kT c3 hf
    refine j_iconst (pc := 16) X dX8_isLetter_16 kc_0 ?_
    exact hj17_1 _ hf
  · have hf := kF c3 hf
    refine j_iload_n (pc := 6) X dX8_isLetter_6 rfl ?_
    refine j_bipush (pc := 7) X dX8_isLetter_7 kb_122 ?_
    refine j_icmp_gt (tgt := 16) (pc := 9) X dX8_isLetter_9 rfl (fun c4 => ?_) (fun c4 => ?_)
    · have hf := kT c4 hf
      refine j_iconst (pc := 16) X dX8_isLetter_16 kc_0 ?_
      exact hj17_1 _ hf
    · have hf := kF c4 hf
      refine j_iconst (pc := 12) X dX8_isLetter_12 kc_1 ?_
      refine j_goto (tgt := 17) (pc := 13) X dX8_isLetter_13 rfl ?_
      exact hj17_1 _ hf
theorem c_X8_isLetter {l : Launch} {D : va_G} {cI cS : ClassId}  (N : Nat) (a0 : Int32) {r : Int32} (hf : f_X8_isLetter N a0 = some r) : mP l yX8_isLetter wsX8_isLetter rm_X8_isLetter D cI cS [.int a0] r :=
  mP.of (by decide) rfl rfl (Nat.le_of_ble_eq_true rfl) (fun g X hR => t_X8_isLetter X  hR N a0  hf)
abbrev rm_X6_lettersAhead : Room := { frames := 1, cells := 0, slots := 0, locals := 21 }
theorem lk_X6_lettersAhead_0 : Cond.fieldLink RX6 14 "BlackBars$Text" "characters" "LBlackBars$Row;" ∈ wsX6_lettersAhead := List.mem_of_getElem? (i := 1) rfl
theorem iw_X6_lettersAhead_X6 : ∀ w ∈ wsX60, w ∈ wsX6_lettersAhead := fun _ h => List.mem_cons_of_mem _ (List.mem_append_left _ (List.mem_append_right _ h))
theorem lk_X6_lettersAhead_8 : Cond.initialized RX8 ∈ wsX6_lettersAhead := List.mem_of_getElem? (i := 9) rfl
theorem lk_X6_lettersAhead_7 : Cond.static yX8_isLetter ∈ wsX6_lettersAhead := List.mem_of_getElem? (i := 8) rfl
def lp_X6_lettersAhead_2 (N : Nat) (C : kS) (a1 : Int32) (k32_1 : Int32 → Option (Int32)) : Nat → Int32 → Option (Int32)
  | 0, _ => none
  | n + 1, x3 => if 12 ≤ x3 then k32_1 x3 else (f_X3_at N C 2 ((a1 - 1) - x3)).bind (fun r6 => (f_X8_isLetter N r6).bind (fun r8 => if r8 = 0 then k32_1 x3 else lp_X6_lettersAhead_2 N C a1 k32_1 n (x3 + 1)))
def f_X6_lettersAhead (N : Nat) (C : kS) (a1 : Int32) : Option (Int32) := jn (fun (x1 : Int32) => some x1) (fun k32_1 => lp_X6_lettersAhead_2 N C a1 k32_1 N 0)
theorem hd_X6_lettersAhead : kHd yX6_lettersAhead 1 := by decide +kernel
set_option maxHeartbeats 4000000 in
set_option maxRecDepth 100000 in
theorem lt_X6_lettersAhead_2 {g : kG} {cI cS : ClassId} {ad : Nat → Nat} {C : kS} (X : Kx g cI cS cX6_lettersAhead RX6 wsX6_lettersAhead 3 rm_X6_lettersAhead) {r : Int32} (hR : kRI g (WC cI cS ad) 3 cX6_lettersAhead .int C r) (N : Nat) (a1 : Int32)  (k32_1 : Int32 → Option (Int32)) (hk32_1 : ∀ (x1 : Int32), k32_1 x1 = some r → J g (WC cI cS ad) 3 C 32 [some (.ref (ad 1)), some (.int a1), some (.int x1)] []) : ∀ (n : Nat) (x3 : Int32), lp_X6_lettersAhead_2 N C a1 k32_1 n x3 = some r → J g (WC cI cS ad) 3 C 2 [some (.ref (ad 1)), some (.int a1), some (.int x3)] [] := by
  intro n
  induction n with
  | zero =>
    intro x3 hf
    rw [lp_X6_lettersAhead_2] at hf
    cases hf
  | succ n ih =>
    intro x3 hf
    rw [lp_X6_lettersAhead_2] at hf
    refine j_iload_n (pc := 2) X dX6_lettersAhead_2 rfl ?_
    refine j_bipush (pc := 3) X dX6_lettersAhead_3 kb_12 ?_
    refine j_icmp_ge (tgt := 32) (pc := 5) X dX6_lettersAhead_5 rfl (fun c4 => ?_) (fun c4 => ?_)
    · have hf := kT c4 hf
      exact hk32_1 _ hf
    · have hf := kF c4 hf
      refine j_aload_n (pc := 8) X dX6_lettersAhead_8 rfl ?_
      refine j_get (pc := 9) X iw_X6_lettersAhead_X6 (wc6 kd_1) rfl 0 (Nat.le_of_ble_eq_true rfl) lk_X6_lettersAhead_0 (v := .ref (ad 2)) rfl dX6_lettersAhead_9 ?_
      refine j_iload_n (pc := 12) X dX6_lettersAhead_12 rfl ?_
      refine j_iconst (pc := 13) X dX6_lettersAhead_13 kc_1 ?_
      refine j_isub (pc := 14) X dX6_lettersAhead_14 ?_
      refine j_iload_n (pc := 15) X dX6_lettersAhead_15 rfl ?_
      refine j_isub (pc := 16) X dX6_lettersAhead_16 ?_
      obtain ⟨r6, h5, hf⟩ := kB hf
      refine j_callI (pc := 17) X (c_X3_at N C 2 kd_2 ((a1 - 1) - x3) h5) gX6_lettersAhead_X3_at rfl ⟨rfl, rfl⟩ rfl hd_X3_at ⟨(Nat.le_of_ble_eq_true rfl), (Nat.le_of_ble_eq_true rfl)⟩ (wc3 kd_2) rfl rfl rfl (Nat.le_of_ble_eq_true rfl) rfl dX6_lettersAhead_17 ?_
      obtain ⟨r8, h7, hf⟩ := kB hf
      refine j_callN (pc := 20) X (c_X8_isLetter N r6 h7) ggX6_lettersAhead_X8_isLetter rfl ⟨rfl, rfl⟩ X.2.2.2.2.2.1.2.2.1 lk_X6_lettersAhead_8 lk_X6_lettersAhead_7 hd_X8_isLetter ⟨(Nat.le_of_ble_eq_true rfl), (Nat.le_of_ble_eq_true rfl)⟩ rfl (Nat.le_of_ble_eq_true rfl) rfl dX6_lettersAhead_20 ?_
      refine j_if_eq (tgt := 32) (pc := 23) X dX6_lettersAhead_23 rfl (fun c9 => ?_) (fun c9 => ?_)
      · have hf := kT c9 hf
        exact hk32_1 _ hf
      · have hf := kF c9 hf
        refine j_iinc (pc := 26) X dX6_lettersAhead_26 rfl (v := x3 + 1) (by rw [kc_1]) (Nat.le_of_ble_eq_true rfl) (lv' := [some (.ref (ad 1)), some (.int a1), some (.int (x3 + 1))]) rfl ?_
        refine j_goto (tgt := 2) (pc := 29) X dX6_lettersAhead_29 rfl ?_
        exact ih _ hf
set_option maxHeartbeats 4000000 in
set_option maxRecDepth 100000 in
theorem t_X6_lettersAhead {g : kG} {cI cS : ClassId} {ad : Nat → Nat} {C : kS} (X : Kx g cI cS cX6_lettersAhead RX6 wsX6_lettersAhead 3 rm_X6_lettersAhead) {r : Int32} (hR : kRI g (WC cI cS ad) 3 cX6_lettersAhead .int C r) (N : Nat) (a1 : Int32)  (hf : f_X6_lettersAhead N C a1 = some r) : J g (WC cI cS ad) 3 C 0 [some (.ref (ad 1)), some (.int a1), none] [] := by
  unfold f_X6_lettersAhead at hf
  refine j_iconst (pc := 0) X dX6_lettersAhead_0 kc_0 ?_
  refine j_istore_n (pc := 1) X dX6_lettersAhead_1 (Nat.le_of_ble_eq_true rfl) (lv' := [some (.ref (ad 1)), some (.int a1), some (.int 0)]) rfl ?_
  obtain ⟨k32_1, ek32_1, hf⟩ := jn_s hf
  have hk32_1 : ∀ (x1 : Int32), k32_1 x1 = some r → J g (WC cI cS ad) 3 C 32 [some (.ref (ad 1)), some (.int a1), some (.int x1)] [] := by
    intro x1 hf
    have hf := jE1 ek32_1 hf
    refine j_iload_n (pc := 32) X dX6_lettersAhead_32 rfl ?_
    exact j_retI hR dX6_lettersAhead_33 hf
  exact lt_X6_lettersAhead_2 X hR N a1   k32_1 hk32_1 N _ hf
theorem c_X6_lettersAhead {l : Launch} {D : va_G} {cI cS : ClassId} {ad : Nat → Nat} (N : Nat) (C : kS) (a1 : Int32) {r : Int32} (hf : f_X6_lettersAhead N C a1 = some r) : mI l yX6_lettersAhead wsX6_lettersAhead rm_X6_lettersAhead D cI cS (WC cI cS ad) C [.ref (ad 1), .int a1] r :=
  mI.of (by decide) rfl rfl (Nat.le_of_ble_eq_true rfl) (fun g X hR => t_X6_lettersAhead X  hR N a1  hf)
abbrev rm_X6_wordsAhead : Room := { frames := 1, cells := 0, slots := 0, locals := 21 }
theorem lk_X6_wordsAhead_0 : Cond.fieldLink RX6 14 "BlackBars$Text" "characters" "LBlackBars$Row;" ∈ wsX6_wordsAhead := List.mem_of_getElem? (i := 1) rfl
theorem iw_X6_wordsAhead_X6 : ∀ w ∈ wsX60, w ∈ wsX6_wordsAhead := fun _ h => List.mem_cons_of_mem _ (List.mem_append_left _ (List.mem_append_right _ h))
theorem lk_X6_wordsAhead_8 : Cond.initialized RX8 ∈ wsX6_wordsAhead := List.mem_of_getElem? (i := 9) rfl
theorem lk_X6_wordsAhead_7 : Cond.static yX8_isLetter ∈ wsX6_wordsAhead := List.mem_of_getElem? (i := 8) rfl
def lp_X6_wordsAhead_4 (N : Nat) (C : kS) (a1 : Int32) (k48_1 : Int32 → Option (Int32)) : Nat → Int32 → Int32 → Option (Int32)
  | 0, _, _ => none
  | n + 1, x3, x4 => if a1 ≤ x4 then k48_1 x3 else (f_X3_at N C 2 x4).bind (fun r7 => (f_X8_isLetter N r7).bind (fun r9 => jn (fun (x10 : Int32) => lp_X6_wordsAhead_4 N C a1 k48_1 n x10 (x4 + 1)) (fun j42_10 => if r9 = 0 then j42_10 x3 else (f_X3_at N C 2 (x4 - 1)).bind (fun r14 => (f_X8_isLetter N r14).bind (fun r16 => if r16 = 0 then j42_10 (x3 + 1) else j42_10 x3)))))
def f_X6_wordsAhead (N : Nat) (C : kS) (a1 : Int32) : Option (Int32) := jn (fun (x1 : Int32) => some x1) (fun k48_1 => lp_X6_wordsAhead_4 N C a1 k48_1 N 0 0)
theorem hd_X6_wordsAhead : kHd yX6_wordsAhead 1 := by decide +kernel
set_option maxHeartbeats 4000000 in
set_option maxRecDepth 100000 in
theorem lt_X6_wordsAhead_4 {g : kG} {cI cS : ClassId} {ad : Nat → Nat} {C : kS} (X : Kx g cI cS cX6_wordsAhead RX6 wsX6_wordsAhead 4 rm_X6_wordsAhead) {r : Int32} (hR : kRI g (WC cI cS ad) 4 cX6_wordsAhead .int C r) (N : Nat) (a1 : Int32)  (k48_1 : Int32 → Option (Int32)) (hk48_1 : ∀ (x1 : Int32), k48_1 x1 = some r → J g (WC cI cS ad) 4 C 48 [some (.ref (ad 1)), some (.int a1), some (.int x1), none] []) : ∀ (n : Nat) (x3 : Int32) (x4 : Int32), lp_X6_wordsAhead_4 N C a1 k48_1 n x3 x4 = some r → J g (WC cI cS ad) 4 C 4 [some (.ref (ad 1)), some (.int a1), some (.int x3), some (.int x4)] [] := by
  intro n
  induction n with
  | zero =>
    intro x3 x4 hf
    rw [lp_X6_wordsAhead_4] at hf
    cases hf
  | succ n ih =>
    intro x3 x4 hf
    rw [lp_X6_wordsAhead_4] at hf
    refine j_iload_n (pc := 4) X dX6_wordsAhead_4 rfl ?_
    refine j_iload_n (pc := 5) X dX6_wordsAhead_5 rfl ?_
    refine j_icmp_ge (tgt := 48) (pc := 6) X dX6_wordsAhead_6 rfl (fun c5 => ?_) (fun c5 => ?_)
    · have hf := kT c5 hf
      refine j_weak (lv' := [some (.ref (ad 1)), some (.int a1), some (.int x3), none]) (And.intro rfl (And.intro rfl (And.intro rfl trivial))) ?_
      exact hk48_1 _ hf
    · have hf := kF c5 hf
      refine j_aload_n (pc := 9) X dX6_wordsAhead_9 rfl ?_
      refine j_get (pc := 10) X iw_X6_wordsAhead_X6 (wc6 kd_1) rfl 0 (Nat.le_of_ble_eq_true rfl) lk_X6_wordsAhead_0 (v := .ref (ad 2)) rfl dX6_wordsAhead_10 ?_
      refine j_iload_n (pc := 13) X dX6_wordsAhead_13 rfl ?_
      obtain ⟨r7, h6, hf⟩ := kB hf
      refine j_callI (pc := 14) X (c_X3_at N C 2 kd_2 x4 h6) gX6_wordsAhead_X3_at rfl ⟨rfl, rfl⟩ rfl hd_X3_at ⟨(Nat.le_of_ble_eq_true rfl), (Nat.le_of_ble_eq_true rfl)⟩ (wc3 kd_2) rfl rfl rfl (Nat.le_of_ble_eq_true rfl) rfl dX6_wordsAhead_14 ?_
      obtain ⟨r9, h8, hf⟩ := kB hf
      refine j_callN (pc := 17) X (c_X8_isLetter N r7 h8) ggX6_wordsAhead_X8_isLetter rfl ⟨rfl, rfl⟩ X.2.2.2.2.2.1.2.2.1 lk_X6_wordsAhead_8 lk_X6_wordsAhead_7 hd_X8_isLetter ⟨(Nat.le_of_ble_eq_true rfl), (Nat.le_of_ble_eq_true rfl)⟩ rfl (Nat.le_of_ble_eq_true rfl) rfl dX6_wordsAhead_17 ?_
      obtain ⟨j42_10, ej42_10, hf⟩ := jn_s hf
      have hj42_10 : ∀ (x10 : Int32), j42_10 x10 = some r → J g (WC cI cS ad) 4 C 42 [some (.ref (ad 1)), some (.int a1), some (.int x10), some (.int x4)] [] := by
        intro x10 hf
        have hf := jE1 ej42_10 hf
        refine j_iinc (pc := 42) X dX6_wordsAhead_42 rfl (v := x4 + 1) (by rw [kc_1]) (Nat.le_of_ble_eq_true rfl) (lv' := [some (.ref (ad 1)), some (.int a1), some (.int x10), some (.int (x4 + 1))]) rfl ?_
        refine j_goto (tgt := 4) (pc := 45) X dX6_wordsAhead_45 rfl ?_
        exact ih _ _ hf
      refine j_if_eq (tgt := 42) (pc := 20) X dX6_wordsAhead_20 rfl (fun c12 => ?_) (fun c12 => ?_)
      · have hf := kT c12 hf
        exact hj42_10 _ hf
      · have hf := kF c12 hf
        refine j_aload_n (pc := 23) X dX6_wordsAhead_23 rfl ?_
        refine j_get (pc := 24) X iw_X6_wordsAhead_X6 (wc6 kd_1) rfl 0 (Nat.le_of_ble_eq_true rfl) lk_X6_wordsAhead_0 (v := .ref (ad 2)) rfl dX6_wordsAhead_24 ?_
        refine j_iload_n (pc := 27) X dX6_wordsAhead_27 rfl ?_
        refine j_iconst (pc := 28) X dX6_wordsAhead_28 kc_1 ?_
        refine j_isub (pc := 29) X dX6_wordsAhead_29 ?_
        obtain ⟨r14, h13, hf⟩ := kB hf
        refine j_callI (pc := 30) X (c_X3_at N C 2 kd_2 (x4 - 1) h13) gX6_wordsAhead_X3_at rfl ⟨rfl, rfl⟩ rfl hd_X3_at ⟨(Nat.le_of_ble_eq_true rfl), (Nat.le_of_ble_eq_true rfl)⟩ (wc3 kd_2) rfl rfl rfl (Nat.le_of_ble_eq_true rfl) rfl dX6_wordsAhead_30 ?_
        obtain ⟨r16, h15, hf⟩ := kB hf
        refine j_callN (pc := 33) X (c_X8_isLetter N r14 h15) ggX6_wordsAhead_X8_isLetter rfl ⟨rfl, rfl⟩ X.2.2.2.2.2.1.2.2.1 lk_X6_wordsAhead_8 lk_X6_wordsAhead_7 hd_X8_isLetter ⟨(Nat.le_of_ble_eq_true rfl), (Nat.le_of_ble_eq_true rfl)⟩ rfl (Nat.le_of_ble_eq_true rfl) rfl dX6_wordsAhead_33 ?_
        refine j_if_ne (tgt := 42) (pc := 36) X dX6_wordsAhead_36 rfl (fun c17 => ?_) (fun c17 => ?_)
        · have hf := kF c17 hf
          exact hj42_10 _ hf
        · have hf := kT c17 hf
          refine j_iinc (pc := 39) X dX6_wordsAhead_39 rfl (v := x3 + 1) (by rw [kc_1]) (Nat.le_of_ble_eq_true rfl) (lv' := [some (.ref (ad 1)), some (.int a1), some (.int (x3 + 1)), some (.int x4)]) rfl ?_
          exact hj42_10 _ hf
set_option maxHeartbeats 4000000 in
set_option maxRecDepth 100000 in
theorem t_X6_wordsAhead {g : kG} {cI cS : ClassId} {ad : Nat → Nat} {C : kS} (X : Kx g cI cS cX6_wordsAhead RX6 wsX6_wordsAhead 4 rm_X6_wordsAhead) {r : Int32} (hR : kRI g (WC cI cS ad) 4 cX6_wordsAhead .int C r) (N : Nat) (a1 : Int32)  (hf : f_X6_wordsAhead N C a1 = some r) : J g (WC cI cS ad) 4 C 0 [some (.ref (ad 1)), some (.int a1), none, none] [] := by
  unfold f_X6_wordsAhead at hf
  refine j_iconst (pc := 0) X dX6_wordsAhead_0 kc_0 ?_
  refine j_istore_n (pc := 1) X dX6_wordsAhead_1 (Nat.le_of_ble_eq_true rfl) (lv' := [some (.ref (ad 1)), some (.int a1), some (.int 0), none]) rfl ?_
  refine j_iconst (pc := 2) X dX6_wordsAhead_2 kc_0 ?_
  refine j_istore_n (pc := 3) X dX6_wordsAhead_3 (Nat.le_of_ble_eq_true rfl) (lv' := [some (.ref (ad 1)), some (.int a1), some (.int 0), some (.int 0)]) rfl ?_
  obtain ⟨k48_1, ek48_1, hf⟩ := jn_s hf
  have hk48_1 : ∀ (x1 : Int32), k48_1 x1 = some r → J g (WC cI cS ad) 4 C 48 [some (.ref (ad 1)), some (.int a1), some (.int x1), none] [] := by
    intro x1 hf
    have hf := jE1 ek48_1 hf
    refine j_iload_n (pc := 48) X dX6_wordsAhead_48 rfl ?_
    exact j_retI hR dX6_wordsAhead_49 hf
  exact lt_X6_wordsAhead_4 X hR N a1   k48_1 hk48_1 N _ _ hf
theorem c_X6_wordsAhead {l : Launch} {D : va_G} {cI cS : ClassId} {ad : Nat → Nat} (N : Nat) (C : kS) (a1 : Int32) {r : Int32} (hf : f_X6_wordsAhead N C a1 = some r) : mI l yX6_wordsAhead wsX6_wordsAhead rm_X6_wordsAhead D cI cS (WC cI cS ad) C [.ref (ad 1), .int a1] r :=
  mI.of (by decide) rfl rfl (Nat.le_of_ble_eq_true rfl) (fun g X hR => t_X6_wordsAhead X  hR N a1  hf)
abbrev rm_X6_faultReason : Room := { frames := 2, cells := 0, slots := 0, locals := 44 }
theorem lk_X6_faultReason_0 : Cond.fieldLink RX6 14 "BlackBars$Text" "characters" "LBlackBars$Row;" ∈ wsX6_faultReason := List.mem_of_getElem? (i := 1) rfl
theorem iw_X6_faultReason_X6 : ∀ w ∈ wsX60, w ∈ wsX6_faultReason := fun _ h => List.mem_cons_of_mem _ (List.mem_append_left _ (List.mem_append_right _ h))
theorem lk_X6_faultReason_14 : Cond.initialized RX8 ∈ wsX6_faultReason := List.mem_of_getElem? (i := 15) rfl
theorem lk_X6_faultReason_13 : Cond.static yX8_isLetter ∈ wsX6_faultReason := List.mem_of_getElem? (i := 14) rfl
theorem lk_X6_faultReason_1 : Cond.fieldLink RX6 20 "BlackBars$Text" "length" "I" ∈ wsX6_faultReason := List.mem_of_getElem? (i := 2) rfl
def f_X6_faultReason (N : Nat) (C : kS) (a1 : Int32) : Option (Int32) := (f_X3_at N C 2 a1).bind (fun r2 => if r2 = 32 then (f_X6_lettersAhead N C a1).bind (fun r17 => jn (fun (t18 : Int32) => jn (fun (t20 : Int32) => some t20) (fun j48_20 => if t18 = 0 then j48_20 2 else if ((C 1 1) - 1) ≤ a1 then j48_20 2 else j48_20 0)) (fun j28_18 => if r17 ≤ 0 then j28_18 0 else j28_18 1)) else (f_X8_isLetter N r2).bind (fun r5 => if r5 = 0 then some 1 else (f_X6_lettersAhead N C a1).bind (fun r8 => if r8 < 12 then jn (fun (t10 : Int32) => some t10) (fun j91_10 => if r8 = 0 then (f_X6_wordsAhead N C a1).bind (fun r14 => if r14 < 40 then j91_10 0 else j91_10 4) else j91_10 0) else some 3)))
theorem hd_X6_faultReason : kHd yX6_faultReason 1 := by decide +kernel
set_option maxHeartbeats 4000000 in
set_option maxRecDepth 100000 in
theorem t_X6_faultReason {g : kG} {cI cS : ClassId} {ad : Nat → Nat} {C : kS} (X : Kx g cI cS cX6_faultReason RX6 wsX6_faultReason 4 rm_X6_faultReason) {r : Int32} (hR : kRI g (WC cI cS ad) 4 cX6_faultReason .int C r) (N : Nat) (a1 : Int32)  (hf : f_X6_faultReason N C a1 = some r) : J g (WC cI cS ad) 4 C 0 [some (.ref (ad 1)), some (.int a1), none, none] [] := by
  unfold f_X6_faultReason at hf
  refine j_aload_n (pc := 0) X dX6_faultReason_0 rfl ?_
  refine j_get (pc := 1) X iw_X6_faultReason_X6 (wc6 kd_1) rfl 0 (Nat.le_of_ble_eq_true rfl) lk_X6_faultReason_0 (v := .ref (ad 2)) rfl dX6_faultReason_1 ?_
  refine j_iload_n (pc := 4) X dX6_faultReason_4 rfl ?_
  obtain ⟨r2, h1, hf⟩ := kB hf
  refine j_callI (pc := 5) X (c_X3_at N C 2 kd_2 a1 h1) gX6_faultReason_X3_at rfl ⟨rfl, rfl⟩ rfl hd_X3_at ⟨(Nat.le_of_ble_eq_true rfl), (Nat.le_of_ble_eq_true rfl)⟩ (wc3 kd_2) rfl rfl rfl (Nat.le_of_ble_eq_true rfl) rfl dX6_faultReason_5 ?_
  refine j_istore_n (pc := 8) X dX6_faultReason_8 (Nat.le_of_ble_eq_true rfl) (lv' := [some (.ref (ad 1)), some (.int a1), some (.int r2), none]) rfl ?_
  refine j_iload_n (pc := 9) X dX6_faultReason_9 rfl ?_
  refine j_bipush (pc := 10) X dX6_faultReason_10 kb_32 ?_
  refine j_icmp_ne (tgt := 49) (pc := 12) X dX6_faultReason_12 rfl (fun c3 => ?_) (fun c3 => ?_)
  · have hf := kF c3 hf
    refine j_iload_n (pc := 49) X dX6_faultReason_49 rfl ?_
    obtain ⟨r5, h4, hf⟩ := kB hf
    refine j_callN (pc := 50) X (c_X8_isLetter N r2 h4) ggX6_faultReason_X8_isLetter rfl ⟨rfl, rfl⟩ X.2.2.2.2.2.1.2.2.1 lk_X6_faultReason_14 lk_X6_faultReason_13 hd_X8_isLetter ⟨(Nat.le_of_ble_eq_true rfl), (Nat.le_of_ble_eq_true rfl)⟩ rfl (Nat.le_of_ble_eq_true rfl) rfl dX6_faultReason_50 ?_
    refine j_if_ne (tgt := 58) (pc := 53) X dX6_faultReason_53 rfl (fun c6 => ?_) (fun c6 => ?_)
    · have hf := kF c6 hf
      refine j_aload_n (pc := 58) X dX6_faultReason_58 rfl ?_
      refine j_iload_n (pc := 59) X dX6_faultReason_59 rfl ?_
      obtain ⟨r8, h7, hf⟩ := kB hf
      refine j_callI (pc := 60) X (c_X6_lettersAhead N C a1 h7) gX6_faultReason_X6_lettersAhead rfl ⟨rfl, rfl⟩ rfl hd_X6_lettersAhead ⟨(Nat.le_of_ble_eq_true rfl), (Nat.le_of_ble_eq_true rfl)⟩ (wc6 kd_1) rfl rfl rfl (Nat.le_of_ble_eq_true rfl) rfl dX6_faultReason_60 ?_
      refine j_istore_n (pc := 63) X dX6_faultReason_63 (Nat.le_of_ble_eq_true rfl) (lv' := [some (.ref (ad 1)), some (.int a1), some (.int r2), some (.int r8)]) rfl ?_
      refine j_iload_n (pc := 64) X dX6_faultReason_64 rfl ?_
      refine j_bipush (pc := 65) X dX6_faultReason_65 kb_12 ?_
      refine j_icmp_lt (tgt := 72) (pc := 67) X dX6_faultReason_67 rfl (fun c9 => ?_) (fun c9 => ?_)
      · have hf := kT c9 hf
        refine j_iload_n (pc := 72) X dX6_faultReason_72 rfl ?_
        obtain ⟨j91_10, ej91_10, hf⟩ := jn_s hf
        have hj91_10 : ∀ (t10 : Int32), j91_10 t10 = some r → J g (WC cI cS ad) 4 C 91 [some (.ref (ad 1)), some (.int a1), some (.int r2), some (.int r8)] [.int t10] := by
          intro t10 hf
          have hf := jE1 ej91_10 hf
          exact j_retI hR dX6_faultReason_91 hf
        refine j_if_ne (tgt := 90) (pc := 73) X dX6_faultReason_73 rfl (fun c12 => ?_) (fun c12 => ?_)
        · have hf := kF c12 hf
          refine j_iconst (pc := 90) X dX6_faultReason_90 kc_0 ?_
          exact hj91_10 _ hf
        · have hf := kT c12 hf
          refine j_aload_n (pc := 76) X dX6_faultReason_76 rfl ?_
          refine j_iload_n (pc := 77) X dX6_faultReason_77 rfl ?_
          obtain ⟨r14, h13, hf⟩ := kB hf
          refine j_callI (pc := 78) X (c_X6_wordsAhead N C a1 h13) gX6_faultReason_X6_wordsAhead rfl ⟨rfl, rfl⟩ rfl hd_X6_wordsAhead ⟨(Nat.le_of_ble_eq_true rfl), (Nat.le_of_ble_eq_true rfl)⟩ (wc6 kd_1) rfl rfl rfl (Nat.le_of_ble_eq_true rfl) rfl dX6_faultReason_78 ?_
          refine j_bipush (pc := 81) X dX6_faultReason_81 kb_40 ?_
          refine j_icmp_lt (tgt := 90) (pc := 83) X dX6_faultReason_83 rfl (fun c15 => ?_) (fun c15 => ?_)
          · have hf := kT c15 hf
            refine j_iconst (pc := 90) X dX6_faultReason_90 kc_0 ?_
            exact hj91_10 _ hf
          · have hf := kF c15 hf
            refine j_iconst (pc := 86) X dX6_faultReason_86 kc_4 ?_
            refine j_goto (tgt := 91) (pc := 87) X dX6_faultReason_87 rfl ?_
            exact hj91_10 _ hf
      · have hf := kF c9 hf
        refine j_iconst (pc := 70) X dX6_faultReason_70 kc_3 ?_
        exact j_retI hR dX6_faultReason_71 hf
    · have hf := kT c6 hf
      refine j_iconst (pc := 56) X dX6_faultReason_56 kc_1 ?_
      exact j_retI hR dX6_faultReason_57 hf
  · have hf := kT c3 hf
    refine j_aload_n (pc := 15) X dX6_faultReason_15 rfl ?_
    refine j_iload_n (pc := 16) X dX6_faultReason_16 rfl ?_
    obtain ⟨r17, h16, hf⟩ := kB hf
    refine j_callI (pc := 17) X (c_X6_lettersAhead N C a1 h16) gX6_faultReason_X6_lettersAhead rfl ⟨rfl, rfl⟩ rfl hd_X6_lettersAhead ⟨(Nat.le_of_ble_eq_true rfl), (Nat.le_of_ble_eq_true rfl)⟩ (wc6 kd_1) rfl rfl rfl (Nat.le_of_ble_eq_true rfl) rfl dX6_faultReason_17 ?_
    obtain ⟨j28_18, ej28_18, hf⟩ := jn_s hf
    have hj28_18 : ∀ (t18 : Int32), j28_18 t18 = some r → J g (WC cI cS ad) 4 C 28 [some (.ref (ad 1)), some (.int a1), some (.int r2), none] [.int t18] := by
      intro t18 hf
      have hf := jE1 ej28_18 hf
      refine j_istore_n (pc := 28) X dX6_faultReason_28 (Nat.le_of_ble_eq_true rfl) (lv' := [some (.ref (ad 1)), some (.int a1), some (.int r2), some (.int t18)]) rfl ?_
      refine j_iload_n (pc := 29) X dX6_faultReason_29 rfl ?_
      obtain ⟨j48_20, ej48_20, hf⟩ := jn_s hf
      have hj48_20 : ∀ (t20 : Int32), j48_20 t20 = some r → J g (WC cI cS ad) 4 C 48 [some (.ref (ad 1)), some (.int a1), some (.int r2), some (.int t18)] [.int t20] := by
        intro t20 hf
        have hf := jE1 ej48_20 hf
        exact j_retI hR dX6_faultReason_48 hf
      refine j_if_eq (tgt := 47) (pc := 30) X dX6_faultReason_30 rfl (fun c22 => ?_) (fun c22 => ?_)
      · have hf := kT c22 hf
        refine j_iconst (pc := 47) X dX6_faultReason_47 kc_2 ?_
        exact hj48_20 _ hf
      · have hf := kF c22 hf
        refine j_iload_n (pc := 33) X dX6_faultReason_33 rfl ?_
        refine j_aload_n (pc := 34) X dX6_faultReason_34 rfl ?_
        refine j_get (pc := 35) X iw_X6_faultReason_X6 (wc6 kd_1) rfl 1 (Nat.le_of_ble_eq_true rfl) lk_X6_faultReason_1 (v := .int (C 1 1)) rfl dX6_faultReason_35 ?_
        refine j_iconst (pc := 38) X dX6_faultReason_38 kc_1 ?_
        refine j_isub (pc := 39) X dX6_faultReason_39 ?_
        refine j_icmp_ge (tgt := 47) (pc := 40) X dX6_faultReason_40 rfl (fun c23 => ?_) (fun c23 => ?_)
        · have hf := kT c23 hf
          refine j_iconst (pc := 47) X dX6_faultReason_47 kc_2 ?_
          exact hj48_20 _ hf
        · have hf := kF c23 hf
          refine j_iconst (pc := 43) X dX6_faultReason_43 kc_0 ?_
          refine j_goto (tgt := 48) (pc := 44) X dX6_faultReason_44 rfl ?_
          exact hj48_20 _ hf
    refine j_if_le (tgt := 27) (pc := 20) X dX6_faultReason_20 rfl (fun c24 => ?_) (fun c24 => ?_)
    · have hf := kT c24 hf
      refine j_iconst (pc := 27) X dX6_faultReason_27 kc_0 ?_
      exact hj28_18 _ hf
    · have hf := kF c24 hf
      refine j_iconst (pc := 23) X dX6_faultReason_23 kc_1 ?_
      refine j_goto (tgt := 28) (pc := 24) X dX6_faultReason_24 rfl ?_
      exact hj28_18 _ hf
theorem c_X6_faultReason {l : Launch} {D : va_G} {cI cS : ClassId} {ad : Nat → Nat} (N : Nat) (C : kS) (a1 : Int32) {r : Int32} (hf : f_X6_faultReason N C a1 = some r) : mI l yX6_faultReason wsX6_faultReason rm_X6_faultReason D cI cS (WC cI cS ad) C [.ref (ad 1), .int a1] r :=
  mI.of (by decide) rfl rfl (Nat.le_of_ble_eq_true rfl) (fun g X hR => t_X6_faultReason X  hR N a1  hf)
abbrev rm_X6_faultIndex : Room := { frames := 3, cells := 0, slots := 0, locals := 67 }
theorem lk_X6_faultIndex_0 : Cond.fieldLink RX6 20 "BlackBars$Text" "length" "I" ∈ wsX6_faultIndex := List.mem_of_getElem? (i := 1) rfl
theorem iw_X6_faultIndex_X6 : ∀ w ∈ wsX60, w ∈ wsX6_faultIndex := fun _ h => List.mem_cons_of_mem _ (List.mem_append_left _ (List.mem_append_right _ h))
def lp_X6_faultIndex_2 (N : Nat) (C : kS) (k26_0 : Option (Int32)) : Nat → Int32 → Option (Int32)
  | 0, _ => none
  | n + 1, x2 => if (C 1 1) ≤ x2 then k26_0 else (f_X6_faultReason N C x2).bind (fun r5 => if r5 = 0 then lp_X6_faultIndex_2 N C k26_0 n (x2 + 1) else some x2)
def f_X6_faultIndex (N : Nat) (C : kS) : Option (Int32) := jn (some (-1)) (fun k26_0 => lp_X6_faultIndex_2 N C k26_0 N 0)
theorem hd_X6_faultIndex : kHd yX6_faultIndex 0 := by decide +kernel
set_option maxHeartbeats 4000000 in
set_option maxRecDepth 100000 in
theorem lt_X6_faultIndex_2 {g : kG} {cI cS : ClassId} {ad : Nat → Nat} {C : kS} (X : Kx g cI cS cX6_faultIndex RX6 wsX6_faultIndex 2 rm_X6_faultIndex) {r : Int32} (hR : kRI g (WC cI cS ad) 2 cX6_faultIndex .int C r) (N : Nat)   (k26_0 : Option (Int32)) (hk26_0 : ∀ (_ : Unit), k26_0 = some r → J g (WC cI cS ad) 2 C 26 [some (.ref (ad 1)), none] []) : ∀ (n : Nat) (x2 : Int32), lp_X6_faultIndex_2 N C k26_0 n x2 = some r → J g (WC cI cS ad) 2 C 2 [some (.ref (ad 1)), some (.int x2)] [] := by
  intro n
  induction n with
  | zero =>
    intro x2 hf
    rw [lp_X6_faultIndex_2] at hf
    cases hf
  | succ n ih =>
    intro x2 hf
    rw [lp_X6_faultIndex_2] at hf
    refine j_iload_n (pc := 2) X dX6_faultIndex_2 rfl ?_
    refine j_aload_n (pc := 3) X dX6_faultIndex_3 rfl ?_
    refine j_get (pc := 4) X iw_X6_faultIndex_X6 (wc6 kd_1) rfl 1 (Nat.le_of_ble_eq_true rfl) lk_X6_faultIndex_0 (v := .int (C 1 1)) rfl dX6_faultIndex_4 ?_
    refine j_icmp_ge (tgt := 26) (pc := 7) X dX6_faultIndex_7 rfl (fun c3 => ?_) (fun c3 => ?_)
    · have hf := kT c3 hf
      refine j_weak (lv' := [some (.ref (ad 1)), none]) (And.intro rfl trivial) ?_
      exact hk26_0 () hf
    · have hf := kF c3 hf
      refine j_aload_n (pc := 10) X dX6_faultIndex_10 rfl ?_
      refine j_iload_n (pc := 11) X dX6_faultIndex_11 rfl ?_
      obtain ⟨r5, h4, hf⟩ := kB hf
      refine j_callI (pc := 12) X (c_X6_faultReason N C x2 h4) gX6_faultIndex_X6_faultReason rfl ⟨rfl, rfl⟩ rfl hd_X6_faultReason ⟨(Nat.le_of_ble_eq_true rfl), (Nat.le_of_ble_eq_true rfl)⟩ (wc6 kd_1) rfl rfl rfl (Nat.le_of_ble_eq_true rfl) rfl dX6_faultIndex_12 ?_
      refine j_if_eq (tgt := 20) (pc := 15) X dX6_faultIndex_15 rfl (fun c6 => ?_) (fun c6 => ?_)
      · have hf := kT c6 hf
        refine j_iinc (pc := 20) X dX6_faultIndex_20 rfl (v := x2 + 1) (by rw [kc_1]) (Nat.le_of_ble_eq_true rfl) (lv' := [some (.ref (ad 1)), some (.int (x2 + 1))]) rfl ?_
        refine j_goto (tgt := 2) (pc := 23) X dX6_faultIndex_23 rfl ?_
        exact ih _ hf
      · have hf := kF c6 hf
        refine j_iload_n (pc := 18) X dX6_faultIndex_18 rfl ?_
        exact j_retI hR dX6_faultIndex_19 hf
set_option maxHeartbeats 4000000 in
set_option maxRecDepth 100000 in
theorem t_X6_faultIndex {g : kG} {cI cS : ClassId} {ad : Nat → Nat} {C : kS} (X : Kx g cI cS cX6_faultIndex RX6 wsX6_faultIndex 2 rm_X6_faultIndex) {r : Int32} (hR : kRI g (WC cI cS ad) 2 cX6_faultIndex .int C r) (N : Nat)   (hf : f_X6_faultIndex N C = some r) : J g (WC cI cS ad) 2 C 0 [some (.ref (ad 1)), none] [] := by
  unfold f_X6_faultIndex at hf
  refine j_iconst (pc := 0) X dX6_faultIndex_0 kc_0 ?_
  refine j_istore_n (pc := 1) X dX6_faultIndex_1 (Nat.le_of_ble_eq_true rfl) (lv' := [some (.ref (ad 1)), some (.int 0)]) rfl ?_
  obtain ⟨k26_0, ek26_0, hf⟩ := jn_s hf
  have hk26_0 : ∀ (_ : Unit), k26_0 = some r → J g (WC cI cS ad) 2 C 26 [some (.ref (ad 1)), none] [] := by
    intro _ hf
    have hf := jE0 ek26_0 hf
    refine j_iconst (pc := 26) X dX6_faultIndex_26 kc_m1 ?_
    exact j_retI hR dX6_faultIndex_27 hf
  exact lt_X6_faultIndex_2 X hR N   k26_0 hk26_0 N _ hf
theorem c_X6_faultIndex {l : Launch} {D : va_G} {cI cS : ClassId} {ad : Nat → Nat} (N : Nat) (C : kS)  {r : Int32} (hf : f_X6_faultIndex N C = some r) : mI l yX6_faultIndex wsX6_faultIndex rm_X6_faultIndex D cI cS (WC cI cS ad) C [.ref (ad 1)] r :=
  mI.of (by decide) rfl rfl (Nat.le_of_ble_eq_true rfl) (fun g X hR => t_X6_faultIndex X  hR N   hf)
abbrev rm_X6_isOneWord : Room := { frames := 1, cells := 0, slots := 0, locals := 21 }
theorem lk_X6_isOneWord_0 : Cond.fieldLink RX6 20 "BlackBars$Text" "length" "I" ∈ wsX6_isOneWord := List.mem_of_getElem? (i := 1) rfl
theorem iw_X6_isOneWord_X6 : ∀ w ∈ wsX60, w ∈ wsX6_isOneWord := fun _ h => List.mem_cons_of_mem _ (List.mem_append_left _ (List.mem_append_right _ h))
theorem lk_X6_isOneWord_1 : Cond.fieldLink RX6 14 "BlackBars$Text" "characters" "LBlackBars$Row;" ∈ wsX6_isOneWord := List.mem_of_getElem? (i := 2) rfl
theorem lk_X6_isOneWord_9 : Cond.initialized RX8 ∈ wsX6_isOneWord := List.mem_of_getElem? (i := 10) rfl
theorem lk_X6_isOneWord_8 : Cond.static yX8_isLetter ∈ wsX6_isOneWord := List.mem_of_getElem? (i := 9) rfl
def lp_X6_isOneWord_20 (N : Nat) (C : kS) (k50_2 : Option (Int32)) : Nat → Int32 → Option (Int32)
  | 0, _ => none
  | n + 1, x4 => if (C 1 1) ≤ x4 then k50_2 else (f_X3_at N C 2 x4).bind (fun r7 => (f_X8_isLetter N r7).bind (fun r9 => if r9 = 0 then some ((0 : Int32) &&& 1) else lp_X6_isOneWord_20 N C k50_2 n (x4 + 1)))
def f_X6_isOneWord (N : Nat) (C : kS) (a1 : Int32) : Option (Int32) := if (C 1 1) < 1 then some ((0 : Int32) &&& 1) else if (C 1 1) ≤ a1 then jn (some ((1 : Int32) &&& 1)) (fun k50_2 => lp_X6_isOneWord_20 N C k50_2 N 0) else some ((0 : Int32) &&& 1)
theorem hd_X6_isOneWord : kHd yX6_isOneWord 1 := by decide +kernel
set_option maxHeartbeats 4000000 in
set_option maxRecDepth 100000 in
theorem lt_X6_isOneWord_20 {g : kG} {cI cS : ClassId} {ad : Nat → Nat} {C : kS} (X : Kx g cI cS cX6_isOneWord RX6 wsX6_isOneWord 3 rm_X6_isOneWord) {r : Int32} (hR : kRI g (WC cI cS ad) 3 cX6_isOneWord .boolean C r) (N : Nat) (a1 : Int32)  (k50_2 : Option (Int32)) (hk50_2 : ∀ (_ : Unit), k50_2 = some r → J g (WC cI cS ad) 3 C 50 [some (.ref (ad 1)), some (.int a1), none] []) : ∀ (n : Nat) (x4 : Int32), lp_X6_isOneWord_20 N C k50_2 n x4 = some r → J g (WC cI cS ad) 3 C 20 [some (.ref (ad 1)), some (.int a1), some (.int x4)] [] := by
  intro n
  induction n with
  | zero =>
    intro x4 hf
    rw [lp_X6_isOneWord_20] at hf
    cases hf
  | succ n ih =>
    intro x4 hf
    rw [lp_X6_isOneWord_20] at hf
    refine j_iload_n (pc := 20) X dX6_isOneWord_20 rfl ?_
    refine j_aload_n (pc := 21) X dX6_isOneWord_21 rfl ?_
    refine j_get (pc := 22) X iw_X6_isOneWord_X6 (wc6 kd_1) rfl 1 (Nat.le_of_ble_eq_true rfl) lk_X6_isOneWord_0 (v := .int (C 1 1)) rfl dX6_isOneWord_22 ?_
    refine j_icmp_ge (tgt := 50) (pc := 25) X dX6_isOneWord_25 rfl (fun c5 => ?_) (fun c5 => ?_)
    · have hf := kT c5 hf
      refine j_weak (lv' := [some (.ref (ad 1)), some (.int a1), none]) (And.intro rfl (And.intro rfl trivial)) ?_
      exact hk50_2 () hf
    · have hf := kF c5 hf
      refine j_aload_n (pc := 28) X dX6_isOneWord_28 rfl ?_
      refine j_get (pc := 29) X iw_X6_isOneWord_X6 (wc6 kd_1) rfl 0 (Nat.le_of_ble_eq_true rfl) lk_X6_isOneWord_1 (v := .ref (ad 2)) rfl dX6_isOneWord_29 ?_
      refine j_iload_n (pc := 32) X dX6_isOneWord_32 rfl ?_
      obtain ⟨r7, h6, hf⟩ := kB hf
      refine j_callI (pc := 33) X (c_X3_at N C 2 kd_2 x4 h6) gX6_isOneWord_X3_at rfl ⟨rfl, rfl⟩ rfl hd_X3_at ⟨(Nat.le_of_ble_eq_true rfl), (Nat.le_of_ble_eq_true rfl)⟩ (wc3 kd_2) rfl rfl rfl (Nat.le_of_ble_eq_true rfl) rfl dX6_isOneWord_33 ?_
      obtain ⟨r9, h8, hf⟩ := kB hf
      refine j_callN (pc := 36) X (c_X8_isLetter N r7 h8) ggX6_isOneWord_X8_isLetter rfl ⟨rfl, rfl⟩ X.2.2.2.2.2.1.2.2.1 lk_X6_isOneWord_9 lk_X6_isOneWord_8 hd_X8_isLetter ⟨(Nat.le_of_ble_eq_true rfl), (Nat.le_of_ble_eq_true rfl)⟩ rfl (Nat.le_of_ble_eq_true rfl) rfl dX6_isOneWord_36 ?_
      refine j_if_ne (tgt := 44) (pc := 39) X dX6_isOneWord_39 rfl (fun c10 => ?_) (fun c10 => ?_)
      · have hf := kF c10 hf
        refine j_iinc (pc := 44) X dX6_isOneWord_44 rfl (v := x4 + 1) (by rw [kc_1]) (Nat.le_of_ble_eq_true rfl) (lv' := [some (.ref (ad 1)), some (.int a1), some (.int (x4 + 1))]) rfl ?_
        refine j_goto (tgt := 20) (pc := 47) X dX6_isOneWord_47 rfl ?_
        exact ih _ hf
      · have hf := kT c10 hf
        refine j_iconst (pc := 42) X dX6_isOneWord_42 kc_0 ?_
        exact j_retB hR dX6_isOneWord_43 hf
set_option maxHeartbeats 4000000 in
set_option maxRecDepth 100000 in
theorem t_X6_isOneWord {g : kG} {cI cS : ClassId} {ad : Nat → Nat} {C : kS} (X : Kx g cI cS cX6_isOneWord RX6 wsX6_isOneWord 3 rm_X6_isOneWord) {r : Int32} (hR : kRI g (WC cI cS ad) 3 cX6_isOneWord .boolean C r) (N : Nat) (a1 : Int32)  (hf : f_X6_isOneWord N C a1 = some r) : J g (WC cI cS ad) 3 C 0 [some (.ref (ad 1)), some (.int a1), none] [] := by
  unfold f_X6_isOneWord at hf
  refine j_aload_n (pc := 0) X dX6_isOneWord_0 rfl ?_
  refine j_get (pc := 1) X iw_X6_isOneWord_X6 (wc6 kd_1) rfl 1 (Nat.le_of_ble_eq_true rfl) lk_X6_isOneWord_0 (v := .int (C 1 1)) rfl dX6_isOneWord_1 ?_
  refine j_iconst (pc := 4) X dX6_isOneWord_4 kc_1 ?_
  refine j_icmp_lt (tgt := 16) (pc := 5) X dX6_isOneWord_5 rfl (fun c1 => ?_) (fun c1 => ?_)
  · have hf := kT c1 hf
    refine j_iconst (pc := 16) X dX6_isOneWord_16 kc_0 ?_
    exact j_retB hR dX6_isOneWord_17 hf
  · have hf := kF c1 hf
    refine j_aload_n (pc := 8) X dX6_isOneWord_8 rfl ?_
    refine j_get (pc := 9) X iw_X6_isOneWord_X6 (wc6 kd_1) rfl 1 (Nat.le_of_ble_eq_true rfl) lk_X6_isOneWord_0 (v := .int (C 1 1)) rfl dX6_isOneWord_9 ?_
    refine j_iload_n (pc := 12) X dX6_isOneWord_12 rfl ?_
    refine j_icmp_le (tgt := 18) (pc := 13) X dX6_isOneWord_13 rfl (fun c2 => ?_) (fun c2 => ?_)
    · have hf := kT c2 hf
      refine j_iconst (pc := 18) X dX6_isOneWord_18 kc_0 ?_
      refine j_istore_n (pc := 19) X dX6_isOneWord_19 (Nat.le_of_ble_eq_true rfl) (lv' := [some (.ref (ad 1)), some (.int a1), some (.int 0)]) rfl ?_
      obtain ⟨k50_2, ek50_2, hf⟩ := jn_s hf
      have hk50_2 : ∀ (_ : Unit), k50_2 = some r → J g (WC cI cS ad) 3 C 50 [some (.ref (ad 1)), some (.int a1), none] [] := by
        intro _ hf
        have hf := jE0 ek50_2 hf
        refine j_iconst (pc := 50) X dX6_isOneWord_50 kc_1 ?_
        exact j_retB hR dX6_isOneWord_51 hf
      exact lt_X6_isOneWord_20 X hR N a1   k50_2 hk50_2 N _ hf
    · have hf := kF c2 hf
      refine j_iconst (pc := 16) X dX6_isOneWord_16 kc_0 ?_
      exact j_retB hR dX6_isOneWord_17 hf
theorem c_X6_isOneWord {l : Launch} {D : va_G} {cI cS : ClassId} {ad : Nat → Nat} (N : Nat) (C : kS) (a1 : Int32) {r : Int32} (hf : f_X6_isOneWord N C a1 = some r) : mI l yX6_isOneWord wsX6_isOneWord rm_X6_isOneWord D cI cS (WC cI cS ad) C [.ref (ad 1), .int a1] r :=
  mI.of (by decide) rfl rfl (Nat.le_of_ble_eq_true rfl) (fun g X hR => t_X6_isOneWord X  hR N a1  hf)
abbrev rm_X6_size : Room := { frames := 0, cells := 0, slots := 0, locals := 0 }
theorem lk_X6_size_0 : Cond.fieldLink RX6 20 "BlackBars$Text" "length" "I" ∈ wsX6_size := List.mem_of_getElem? (i := 1) rfl
theorem iw_X6_size_X6 : ∀ w ∈ wsX60, w ∈ wsX6_size := fun _ h => List.mem_cons_of_mem _ (List.mem_append_right _ h)
def f_X6_size (N : Nat) (C : kS) : Option (Int32) := some (C 1 1)
theorem hd_X6_size : kHd yX6_size 0 := by decide +kernel
set_option maxHeartbeats 4000000 in
set_option maxRecDepth 100000 in
theorem t_X6_size {g : kG} {cI cS : ClassId} {ad : Nat → Nat} {C : kS} (X : Kx g cI cS cX6_size RX6 wsX6_size 1 rm_X6_size) {r : Int32} (hR : kRI g (WC cI cS ad) 1 cX6_size .int C r) (N : Nat)   (hf : f_X6_size N C = some r) : J g (WC cI cS ad) 1 C 0 [some (.ref (ad 1))] [] := by
  unfold f_X6_size at hf
  refine j_aload_n (pc := 0) X dX6_size_0 rfl ?_
  refine j_get (pc := 1) X iw_X6_size_X6 (wc6 kd_1) rfl 1 (Nat.le_of_ble_eq_true rfl) lk_X6_size_0 (v := .int (C 1 1)) rfl dX6_size_1 ?_
  exact j_retI hR dX6_size_4 hf
theorem c_X6_size {l : Launch} {D : va_G} {cI cS : ClassId} {ad : Nat → Nat} (N : Nat) (C : kS)  {r : Int32} (hf : f_X6_size N C = some r) : mI l yX6_size wsX6_size rm_X6_size D cI cS (WC cI cS ad) C [.ref (ad 1)] r :=
  mI.of (by decide) rfl rfl (Nat.le_of_ble_eq_true rfl) (fun g X hR => t_X6_size X  hR N   hf)
abbrev rm_X7_addLetter : Room := { frames := 2, cells := 0, slots := 0, locals := 42 }
theorem lk_X7_addLetter_0 : Cond.fieldLink RX7 28 "BlackBars$Words" "size" "I" ∈ wsX7_addLetter := List.mem_of_getElem? (i := 1) rfl
theorem iw_X7_addLetter_X7 : ∀ w ∈ wsX70, w ∈ wsX7_addLetter := fun _ h => List.mem_cons_of_mem _ (List.mem_append_left _ (List.mem_append_right _ h))
theorem lk_X7_addLetter_1 : Cond.fieldLink RX7 13 "BlackBars$Words" "mostLetters" "I" ∈ wsX7_addLetter := List.mem_of_getElem? (i := 2) rfl
theorem lk_X7_addLetter_2 : Cond.fieldLink RX7 21 "BlackBars$Words" "letters" "LBlackBars$Row;" ∈ wsX7_addLetter := List.mem_of_getElem? (i := 3) rfl
theorem lk_X7_addLetter_3 : Cond.fieldLink RX7 25 "BlackBars$Words" "lengths" "LBlackBars$Row;" ∈ wsX7_addLetter := List.mem_of_getElem? (i := 4) rfl
def f_X7_addLetter (N : Nat) (C : kS) (k : Nat) (a1 : Int32) : Option (kS) := (f_X7_lengthOf N C k ((C k 4) - 1)).bind (fun r2 => if ((C k 4) - 1) < 0 then some C else if (C k 1) ≤ r2 then some C else (f_X3_put N C (k + 1) ((((C k 4) - 1) * (C k 1)) + r2) a1).bind (fun C6 => (f_X3_put N C6 (k + 3) ((C k 4) - 1) (r2 + 1)).bind (fun C8 => some C8)))
theorem hd_X7_addLetter : kHd yX7_addLetter 1 := by decide +kernel
set_option maxHeartbeats 4000000 in
set_option maxRecDepth 100000 in
theorem t_X7_addLetter {g : kG} {cI cS : ClassId} {ad : Nat → Nat} (X : Kx g cI cS cX7_addLetter RX7 wsX7_addLetter 4 rm_X7_addLetter) {Cr : kS} (hI : kInj 132 ad) (Y : Kw g (WC cI cS ad) (kAd 132 ad)) (hR : kRV g (WC cI cS ad) 4 cX7_addLetter Cr) (N : Nat) (C : kS) (k : Nat) (a1 : Int32) (hk : kd k = 7) (hf : f_X7_addLetter N C k a1 = some Cr) : J g (WC cI cS ad) 4 C 0 [some (.ref (ad k)), some (.int a1), none, none] [] := by
  unfold f_X7_addLetter at hf
  refine j_aload_n (pc := 0) X dX7_addLetter_0 rfl ?_
  refine j_get (pc := 1) X iw_X7_addLetter_X7 (wc7 hk) rfl 4 (Nat.le_of_ble_eq_true rfl) lk_X7_addLetter_0 (v := .int (C k 4)) rfl dX7_addLetter_1 ?_
  refine j_iconst (pc := 4) X dX7_addLetter_4 kc_1 ?_
  refine j_isub (pc := 5) X dX7_addLetter_5 ?_
  refine j_istore_n (pc := 6) X dX7_addLetter_6 (Nat.le_of_ble_eq_true rfl) (lv' := [some (.ref (ad k)), some (.int a1), some (.int ((C k 4) - 1)), none]) rfl ?_
  refine j_aload_n (pc := 7) X dX7_addLetter_7 rfl ?_
  refine j_iload_n (pc := 8) X dX7_addLetter_8 rfl ?_
  obtain ⟨r2, h1, hf⟩ := kB hf
  refine j_callI (pc := 9) X (c_X7_lengthOf N C k hk ((C k 4) - 1) h1) gX7_addLetter_X7_lengthOf rfl ⟨rfl, rfl⟩ rfl hd_X7_lengthOf ⟨(Nat.le_of_ble_eq_true rfl), (Nat.le_of_ble_eq_true rfl)⟩ (wc7 hk) rfl rfl rfl (Nat.le_of_ble_eq_true rfl) rfl dX7_addLetter_9 ?_
  refine j_istore_n (pc := 12) X dX7_addLetter_12 (Nat.le_of_ble_eq_true rfl) (lv' := [some (.ref (ad k)), some (.int a1), some (.int ((C k 4) - 1)), some (.int r2)]) rfl ?_
  refine j_iload_n (pc := 13) X dX7_addLetter_13 rfl ?_
  refine j_if_lt (tgt := 52) (pc := 14) X dX7_addLetter_14 rfl (fun c3 => ?_) (fun c3 => ?_)
  · have hf := kT c3 hf
    exact j_retV hR dX7_addLetter_52 hf
  · have hf := kF c3 hf
    refine j_iload_n (pc := 17) X dX7_addLetter_17 rfl ?_
    refine j_aload_n (pc := 18) X dX7_addLetter_18 rfl ?_
    refine j_get (pc := 19) X iw_X7_addLetter_X7 (wc7 hk) rfl 1 (Nat.le_of_ble_eq_true rfl) lk_X7_addLetter_1 (v := .int (C k 1)) rfl dX7_addLetter_19 ?_
    refine j_icmp_ge (tgt := 52) (pc := 22) X dX7_addLetter_22 rfl (fun c4 => ?_) (fun c4 => ?_)
    · have hf := kT c4 hf
      exact j_retV hR dX7_addLetter_52 hf
    · have hf := kF c4 hf
      refine j_aload_n (pc := 25) X dX7_addLetter_25 rfl ?_
      refine j_get (pc := 26) X iw_X7_addLetter_X7 (wc7 hk) rfl 2 (Nat.le_of_ble_eq_true rfl) lk_X7_addLetter_2 (v := .ref (ad (k + 1))) rfl dX7_addLetter_26 ?_
      refine j_iload_n (pc := 29) X dX7_addLetter_29 rfl ?_
      refine j_aload_n (pc := 30) X dX7_addLetter_30 rfl ?_
      refine j_get (pc := 31) X iw_X7_addLetter_X7 (wc7 hk) rfl 1 (Nat.le_of_ble_eq_true rfl) lk_X7_addLetter_1 (v := .int (C k 1)) rfl dX7_addLetter_31 ?_
      refine j_imul (pc := 34) X dX7_addLetter_34 ?_
      refine j_iload_n (pc := 35) X dX7_addLetter_35 rfl ?_
      refine j_iadd (pc := 36) X dX7_addLetter_36 ?_
      refine j_iload_n (pc := 37) X dX7_addLetter_37 rfl ?_
      obtain ⟨C6, h5, hf⟩ := kB hf
      refine j_callV (pc := 38) X Y (c_X3_put hI N C (k + 1) (kd7_1 hk) ((((C k 4) - 1) * (C k 1)) + r2) a1 h5) gX7_addLetter_X3_put rfl ⟨rfl, rfl⟩ rfl hd_X3_put ⟨(Nat.le_of_ble_eq_true rfl), (Nat.le_of_ble_eq_true rfl)⟩ (wc3 (kd7_1 hk)) rfl rfl rfl (Nat.le_of_ble_eq_true rfl) rfl dX7_addLetter_38 ?_
      refine j_aload_n (pc := 41) X dX7_addLetter_41 rfl ?_
      refine j_get (pc := 42) X iw_X7_addLetter_X7 (wc7 hk) rfl 3 (Nat.le_of_ble_eq_true rfl) lk_X7_addLetter_3 (v := .ref (ad (k + 3))) rfl dX7_addLetter_42 ?_
      refine j_iload_n (pc := 45) X dX7_addLetter_45 rfl ?_
      refine j_iload_n (pc := 46) X dX7_addLetter_46 rfl ?_
      refine j_iconst (pc := 47) X dX7_addLetter_47 kc_1 ?_
      refine j_iadd (pc := 48) X dX7_addLetter_48 ?_
      obtain ⟨C8, h7, hf⟩ := kB hf
      refine j_callV (pc := 49) X Y (c_X3_put hI N C6 (k + 3) (kd7_3 hk) ((C k 4) - 1) (r2 + 1) h7) gX7_addLetter_X3_put rfl ⟨rfl, rfl⟩ rfl hd_X3_put ⟨(Nat.le_of_ble_eq_true rfl), (Nat.le_of_ble_eq_true rfl)⟩ (wc3 (kd7_3 hk)) rfl rfl rfl (Nat.le_of_ble_eq_true rfl) rfl dX7_addLetter_49 ?_
      exact j_retV hR dX7_addLetter_52 hf
theorem c_X7_addLetter {l : Launch} {D : va_G} {cI cS : ClassId} {ad : Nat → Nat} (hI : kInj 132 ad) (N : Nat) (C : kS) (k : Nat) (hk : kd k = 7) (a1 : Int32) {Cr : kS} (hf : f_X7_addLetter N C k a1 = some Cr) : mV l yX7_addLetter wsX7_addLetter rm_X7_addLetter D cI cS (WC cI cS ad) (kAd 132 ad) C [.ref (ad k), .int a1] Cr :=
  mV.of (by decide) rfl rfl (Nat.le_of_ble_eq_true rfl) (WC_D hI) (fun g X Y hR => t_X7_addLetter X hI Y hR N C k a1 hk hf)
abbrev rm_X7_beginWord : Room := { frames := 1, cells := 0, slots := 0, locals := 22 }
theorem lk_X7_beginWord_0 : Cond.fieldLink RX7 28 "BlackBars$Words" "size" "I" ∈ wsX7_beginWord := List.mem_of_getElem? (i := 1) rfl
theorem iw_X7_beginWord_X7 : ∀ w ∈ wsX70, w ∈ wsX7_beginWord := fun _ h => List.mem_cons_of_mem _ (List.mem_append_left _ (List.mem_append_right _ h))
theorem lk_X7_beginWord_1 : Cond.fieldLink RX7 7 "BlackBars$Words" "mostWords" "I" ∈ wsX7_beginWord := List.mem_of_getElem? (i := 2) rfl
theorem lk_X7_beginWord_2 : Cond.fieldLink RX7 25 "BlackBars$Words" "lengths" "LBlackBars$Row;" ∈ wsX7_beginWord := List.mem_of_getElem? (i := 3) rfl
def f_X7_beginWord (N : Nat) (C : kS) (k : Nat) : Option (kS) := if (C k 0) ≤ (C k 4) then some C else (f_X3_put N C (k + 3) (C k 4) 0).bind (fun C3 => jn (up1 C3 k (upd (C3 k) 4 ((C3 k 4) + 1))) (fun C4 : kS => some C4))
theorem hd_X7_beginWord : kHd yX7_beginWord 0 := by decide +kernel
set_option maxHeartbeats 4000000 in
set_option maxRecDepth 100000 in
theorem t_X7_beginWord {g : kG} {cI cS : ClassId} {ad : Nat → Nat} (X : Kx g cI cS cX7_beginWord RX7 wsX7_beginWord 1 rm_X7_beginWord) {Cr : kS} (hI : kInj 132 ad) (Y : Kw g (WC cI cS ad) (kAd 132 ad)) (hR : kRV g (WC cI cS ad) 1 cX7_beginWord Cr) (N : Nat) (C : kS) (k : Nat) (hk : kd k = 7) (hf : f_X7_beginWord N C k = some Cr) : J g (WC cI cS ad) 1 C 0 [some (.ref (ad k))] [] := by
  unfold f_X7_beginWord at hf
  refine j_aload_n (pc := 0) X dX7_beginWord_0 rfl ?_
  refine j_get (pc := 1) X iw_X7_beginWord_X7 (wc7 hk) rfl 4 (Nat.le_of_ble_eq_true rfl) lk_X7_beginWord_0 (v := .int (C k 4)) rfl dX7_beginWord_1 ?_
  refine j_aload_n (pc := 4) X dX7_beginWord_4 rfl ?_
  refine j_get (pc := 5) X iw_X7_beginWord_X7 (wc7 hk) rfl 0 (Nat.le_of_ble_eq_true rfl) lk_X7_beginWord_1 (v := .int (C k 0)) rfl dX7_beginWord_5 ?_
  refine j_icmp_ge (tgt := 33) (pc := 8) X dX7_beginWord_8 rfl (fun c1 => ?_) (fun c1 => ?_)
  · have hf := kT c1 hf
    exact j_retV hR dX7_beginWord_33 hf
  · have hf := kF c1 hf
    refine j_aload_n (pc := 11) X dX7_beginWord_11 rfl ?_
    refine j_get (pc := 12) X iw_X7_beginWord_X7 (wc7 hk) rfl 3 (Nat.le_of_ble_eq_true rfl) lk_X7_beginWord_2 (v := .ref (ad (k + 3))) rfl dX7_beginWord_12 ?_
    refine j_aload_n (pc := 15) X dX7_beginWord_15 rfl ?_
    refine j_get (pc := 16) X iw_X7_beginWord_X7 (wc7 hk) rfl 4 (Nat.le_of_ble_eq_true rfl) lk_X7_beginWord_0 (v := .int (C k 4)) rfl dX7_beginWord_16 ?_
    refine j_iconst (pc := 19) X dX7_beginWord_19 kc_0 ?_
    obtain ⟨C3, h2, hf⟩ := kB hf
    refine j_callV (pc := 20) X Y (c_X3_put hI N C (k + 3) (kd7_3 hk) (C k 4) 0 h2) gX7_beginWord_X3_put rfl ⟨rfl, rfl⟩ rfl hd_X3_put ⟨(Nat.le_of_ble_eq_true rfl), (Nat.le_of_ble_eq_true rfl)⟩ (wc3 (kd7_3 hk)) rfl rfl rfl (Nat.le_of_ble_eq_true rfl) rfl dX7_beginWord_20 ?_
    refine j_aload_n (pc := 23) X dX7_beginWord_23 rfl ?_
    refine j_dup (pc := 24) X dX7_beginWord_24 rfl ?_
    refine j_get (pc := 25) X iw_X7_beginWord_X7 (wc7 hk) rfl 4 (Nat.le_of_ble_eq_true rfl) lk_X7_beginWord_0 (v := .int (C3 k 4)) rfl dX7_beginWord_25 ?_
    refine j_iconst (pc := 28) X dX7_beginWord_28 kc_1 ?_
    refine j_iadd (pc := 29) X dX7_beginWord_29 ?_
    obtain ⟨C4, eC4, hf⟩ := jn_s hf
    refine j_put (C' := C4) (pc := 30) X Y iw_X7_beginWord_X7 tyX7 tyX7_ok nmX7 (wc7 hk) rfl 4 (Nat.le_of_ble_eq_true rfl) lk_X7_beginWord_0 rfl (tyX7_ok 4 (Nat.le_of_ble_eq_true rfl)) (Nat.le_of_ble_eq_true rfl) dX7_beginWord_30 (by rw [eC4]; exact sc7_4 hk _) ?_
    exact j_retV hR dX7_beginWord_33 hf
theorem c_X7_beginWord {l : Launch} {D : va_G} {cI cS : ClassId} {ad : Nat → Nat} (hI : kInj 132 ad) (N : Nat) (C : kS) (k : Nat) (hk : kd k = 7) {Cr : kS} (hf : f_X7_beginWord N C k = some Cr) : mV l yX7_beginWord wsX7_beginWord rm_X7_beginWord D cI cS (WC cI cS ad) (kAd 132 ad) C [.ref (ad k)] Cr :=
  mV.of (by decide) rfl rfl (Nat.le_of_ble_eq_true rfl) (WC_D hI) (fun g X Y hR => t_X7_beginWord X hI Y hR N C k hk hf)
