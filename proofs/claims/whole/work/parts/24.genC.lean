abbrev rm_X4_hasEnoughNames : Room := { frames := 3, cells := 0, slots := 0, locals := 66 }
theorem lk_X4_hasEnoughNames_0 : Cond.fieldLink RX4 9 "BlackBars$Sheet" "state" "LBlackBars$State;" ∈ wsX4_hasEnoughNames := List.mem_of_getElem? (i := 1) rfl
theorem iw_X4_hasEnoughNames_X4 : ∀ w ∈ wsX40, w ∈ wsX4_hasEnoughNames := fun _ h => List.mem_cons_of_mem _ (List.mem_append_left _ (List.mem_append_left _ (List.mem_append_left _ (List.mem_append_left _ (List.mem_append_left _ (List.mem_append_right _ h))))))
theorem iw_X4_hasEnoughNames_X5 : ∀ w ∈ wsX50, w ∈ wsX4_hasEnoughNames := fun _ h => List.mem_cons_of_mem _ (List.mem_append_left _ (List.mem_append_left _ (List.mem_append_left _ (List.mem_append_left _ (List.mem_append_right _ h)))))
def lp_X4_hasEnoughNames_2 (N : Nat) (C : kS) (k1 : Nat) (a2 : Int32) (k42_0 : Option (Int32)) : Nat → Int32 → Option (Int32)
  | 0, _ => none
  | n + 1, x2 => (f_X7_size N C 5).bind (fun r4 => if r4 ≤ x2 then k42_0 else (f_X4_isHidden N C x2).bind (fun r7 => jn (lp_X4_hasEnoughNames_2 N C k1 a2 k42_0 n (x2 + 1)) (fun j36_7 => if r7 = 0 then j36_7 else (f_X4_namesUnder N C k1 x2).bind (fun r11 => if a2 ≤ r11 then j36_7 else some ((0 : Int32) &&& 1)))))
def f_X4_hasEnoughNames (N : Nat) (C : kS) (k1 : Nat) (a2 : Int32) : Option (Int32) := jn (some ((1 : Int32) &&& 1)) (fun k42_0 => lp_X4_hasEnoughNames_2 N C k1 a2 k42_0 N 0)
theorem hd_X4_hasEnoughNames : kHd yX4_hasEnoughNames 2 := by decide +kernel
set_option maxHeartbeats 4000000 in
set_option maxRecDepth 100000 in
theorem lt_X4_hasEnoughNames_2 {g : kG} {cI cS : ClassId} {ad : Nat → Nat} {C : kS} (X : Kx g cI cS cX4_hasEnoughNames RX4 wsX4_hasEnoughNames 4 rm_X4_hasEnoughNames) {r : Int32} (hR : kRI g (WC cI cS ad) 4 cX4_hasEnoughNames .boolean C r) (N : Nat) (k1 : Nat) (a2 : Int32) (hk1 : kd k1 = 0) (k42_0 : Option (Int32)) (hk42_0 : ∀ (_ : Unit), k42_0 = some r → J g (WC cI cS ad) 4 C 42 [some (.ref (ad 119)), some (.ref (ad k1)), some (.int a2), none] []) : ∀ (n : Nat) (x2 : Int32), lp_X4_hasEnoughNames_2 N C k1 a2 k42_0 n x2 = some r → J g (WC cI cS ad) 4 C 2 [some (.ref (ad 119)), some (.ref (ad k1)), some (.int a2), some (.int x2)] [] := by
  intro n
  induction n with
  | zero =>
    intro x2 hf
    rw [lp_X4_hasEnoughNames_2] at hf
    cases hf
  | succ n ih =>
    intro x2 hf
    rw [lp_X4_hasEnoughNames_2] at hf
    refine j_iload_n (pc := 2) X dX4_hasEnoughNames_2 rfl ?_
    refine j_aload_n (pc := 3) X dX4_hasEnoughNames_3 rfl ?_
    refine j_get (pc := 4) X iw_X4_hasEnoughNames_X4 (wc4 kd_119) rfl 0 (Nat.le_of_ble_eq_true rfl) lk_X4_hasEnoughNames_0 (v := .ref (ad 4)) rfl dX4_hasEnoughNames_4 ?_
    refine j_getN (pc := 7) X iw_X4_hasEnoughNames_X5 (wc5 kd_4) rfl 0 (Nat.le_of_ble_eq_true rfl) (List.mem_of_getElem? (i := 7) rfl) (v := .ref (ad 5)) rfl dX4_hasEnoughNames_7 ?_
    obtain ⟨r4, h3, hf⟩ := kB hf
    refine j_callI (pc := 10) X (c_X7_size N C 5 (kd5_1 kd_4 : kd 5 = 7) h3) gX4_hasEnoughNames_X7_size rfl ⟨rfl, rfl⟩ rfl hd_X7_size ⟨(Nat.le_of_ble_eq_true rfl), (Nat.le_of_ble_eq_true rfl)⟩ (wc7 (kd5_1 kd_4 : kd 5 = 7)) rfl rfl rfl (Nat.le_of_ble_eq_true rfl) rfl dX4_hasEnoughNames_10 ?_
    refine j_icmp_ge (tgt := 42) (pc := 13) X dX4_hasEnoughNames_13 rfl (fun c5 => ?_) (fun c5 => ?_)
    · have hf := kT c5 hf
      refine j_weak (lv' := [some (.ref (ad 119)), some (.ref (ad k1)), some (.int a2), none]) (And.intro rfl (And.intro rfl (And.intro rfl trivial))) ?_
      exact hk42_0 () hf
    · have hf := kF c5 hf
      refine j_aload_n (pc := 16) X dX4_hasEnoughNames_16 rfl ?_
      refine j_iload_n (pc := 17) X dX4_hasEnoughNames_17 rfl ?_
      obtain ⟨r7, h6, hf⟩ := kB hf
      refine j_callI (pc := 18) X (c_X4_isHidden N C x2 h6) gX4_hasEnoughNames_X4_isHidden rfl ⟨rfl, rfl⟩ rfl hd_X4_isHidden ⟨(Nat.le_of_ble_eq_true rfl), (Nat.le_of_ble_eq_true rfl)⟩ (wc4 kd_119) rfl rfl rfl (Nat.le_of_ble_eq_true rfl) rfl dX4_hasEnoughNames_18 ?_
      obtain ⟨j36_7, ej36_7, hf⟩ := jn_s hf
      have hj36_7 : ∀ (_ : Unit), j36_7 = some r → J g (WC cI cS ad) 4 C 36 [some (.ref (ad 119)), some (.ref (ad k1)), some (.int a2), some (.int x2)] [] := by
        intro _ hf
        have hf := jE0 ej36_7 hf
        refine j_iinc (pc := 36) X dX4_hasEnoughNames_36 rfl (v := x2 + 1) (by rw [kc_1]) (Nat.le_of_ble_eq_true rfl) (lv' := [some (.ref (ad 119)), some (.ref (ad k1)), some (.int a2), some (.int (x2 + 1))]) rfl ?_
        refine j_goto (tgt := 2) (pc := 39) X dX4_hasEnoughNames_39 rfl ?_
        exact ih _ hf
      refine j_if_eq (tgt := 36) (pc := 21) X dX4_hasEnoughNames_21 rfl (fun c9 => ?_) (fun c9 => ?_)
      · have hf := kT c9 hf
        exact hj36_7 () hf
      · have hf := kF c9 hf
        refine j_aload_n (pc := 24) X dX4_hasEnoughNames_24 rfl ?_
        refine j_aload_n (pc := 25) X dX4_hasEnoughNames_25 rfl ?_
        refine j_iload_n (pc := 26) X dX4_hasEnoughNames_26 rfl ?_
        obtain ⟨r11, h10, hf⟩ := kB hf
        refine j_callI (pc := 27) X (c_X4_namesUnder N C k1 hk1 x2 h10) gX4_hasEnoughNames_X4_namesUnder rfl ⟨rfl, rfl⟩ rfl hd_X4_namesUnder ⟨(Nat.le_of_ble_eq_true rfl), (Nat.le_of_ble_eq_true rfl)⟩ (wc4 kd_119) rfl rfl rfl (Nat.le_of_ble_eq_true rfl) rfl dX4_hasEnoughNames_27 ?_
        refine j_iload_n (pc := 30) X dX4_hasEnoughNames_30 rfl ?_
        refine j_icmp_ge (tgt := 36) (pc := 31) X dX4_hasEnoughNames_31 rfl (fun c12 => ?_) (fun c12 => ?_)
        · have hf := kT c12 hf
          exact hj36_7 () hf
        · have hf := kF c12 hf
          refine j_iconst (pc := 34) X dX4_hasEnoughNames_34 kc_0 ?_
          exact j_retB hR dX4_hasEnoughNames_35 hf
set_option maxHeartbeats 4000000 in
set_option maxRecDepth 100000 in
theorem t_X4_hasEnoughNames {g : kG} {cI cS : ClassId} {ad : Nat → Nat} {C : kS} (X : Kx g cI cS cX4_hasEnoughNames RX4 wsX4_hasEnoughNames 4 rm_X4_hasEnoughNames) {r : Int32} (hR : kRI g (WC cI cS ad) 4 cX4_hasEnoughNames .boolean C r) (N : Nat) (k1 : Nat) (a2 : Int32) (hk1 : kd k1 = 0) (hf : f_X4_hasEnoughNames N C k1 a2 = some r) : J g (WC cI cS ad) 4 C 0 [some (.ref (ad 119)), some (.ref (ad k1)), some (.int a2), none] [] := by
  unfold f_X4_hasEnoughNames at hf
  refine j_iconst (pc := 0) X dX4_hasEnoughNames_0 kc_0 ?_
  refine j_istore_n (pc := 1) X dX4_hasEnoughNames_1 (Nat.le_of_ble_eq_true rfl) (lv' := [some (.ref (ad 119)), some (.ref (ad k1)), some (.int a2), some (.int 0)]) rfl ?_
  obtain ⟨k42_0, ek42_0, hf⟩ := jn_s hf
  have hk42_0 : ∀ (_ : Unit), k42_0 = some r → J g (WC cI cS ad) 4 C 42 [some (.ref (ad 119)), some (.ref (ad k1)), some (.int a2), none] [] := by
    intro _ hf
    have hf := jE0 ek42_0 hf
    refine j_iconst (pc := 42) X dX4_hasEnoughNames_42 kc_1 ?_
    exact j_retB hR dX4_hasEnoughNames_43 hf
  exact lt_X4_hasEnoughNames_2 X hR N k1 a2  hk1  k42_0 hk42_0 N _ hf
theorem c_X4_hasEnoughNames {l : Launch} {D : va_G} {cI cS : ClassId} {ad : Nat → Nat} (N : Nat) (C : kS) (k1 : Nat) (hk1 : kd k1 = 0) (a2 : Int32) {r : Int32} (hf : f_X4_hasEnoughNames N C k1 a2 = some r) : mI l yX4_hasEnoughNames wsX4_hasEnoughNames rm_X4_hasEnoughNames D cI cS (WC cI cS ad) C [.ref (ad 119), .ref (ad k1), .int a2] r :=
  mI.of (by decide) rfl rfl (Nat.le_of_ble_eq_true rfl) (fun g X hR => t_X4_hasEnoughNames X  hR N k1 a2 hk1 hf)
abbrev rm_X4_hasLine : Room := { frames := 0, cells := 0, slots := 0, locals := 0 }
theorem lk_X4_hasLine_0 : Cond.fieldLink RX4 43 "BlackBars$Sheet" "lines" "I" ∈ wsX4_hasLine := List.mem_of_getElem? (i := 1) rfl
theorem iw_X4_hasLine_X4 : ∀ w ∈ wsX40, w ∈ wsX4_hasLine := fun _ h => List.mem_cons_of_mem _ (List.mem_append_right _ h)
def f_X4_hasLine (N : Nat) (C : kS) (a1 : Int32) : Option (Int32) := jn (fun (t1 : Int32) => some (t1 &&& 1)) (fun j17_1 => if a1 < 0 then j17_1 0 else if (C 119 8) ≤ a1 then j17_1 0 else j17_1 1)
theorem hd_X4_hasLine : kHd yX4_hasLine 1 := by decide +kernel
set_option maxHeartbeats 4000000 in
set_option maxRecDepth 100000 in
theorem t_X4_hasLine {g : kG} {cI cS : ClassId} {ad : Nat → Nat} {C : kS} (X : Kx g cI cS cX4_hasLine RX4 wsX4_hasLine 2 rm_X4_hasLine) {r : Int32} (hR : kRI g (WC cI cS ad) 2 cX4_hasLine .boolean C r) (N : Nat) (a1 : Int32)  (hf : f_X4_hasLine N C a1 = some r) : J g (WC cI cS ad) 2 C 0 [some (.ref (ad 119)), some (.int a1)] [] := by
  unfold f_X4_hasLine at hf
  refine j_iload_n (pc := 0) X dX4_hasLine_0 rfl ?_
  obtain ⟨j17_1, ej17_1, hf⟩ := jn_s hf
  have hj17_1 : ∀ (t1 : Int32), j17_1 t1 = some r → J g (WC cI cS ad) 2 C 17 [some (.ref (ad 119)), some (.int a1)] [.int t1] := by
    intro t1 hf
    have hf := jE1 ej17_1 hf
    exact j_retB hR dX4_hasLine_17 hf
  refine j_if_lt (tgt := 16) (pc := 1) X dX4_hasLine_1 rfl (fun c3 => ?_) (fun c3 => ?_)
  · have hf := kT c3 hf
    refine j_iconst (pc := 16) X dX4_hasLine_16 kc_0 ?_
    exact hj17_1 _ hf
  · have hf := kF c3 hf
    refine j_iload_n (pc := 4) X dX4_hasLine_4 rfl ?_
    refine j_aload_n (pc := 5) X dX4_hasLine_5 rfl ?_
    refine j_get (pc := 6) X iw_X4_hasLine_X4 (wc4 kd_119) rfl 8 (Nat.le_of_ble_eq_true rfl) lk_X4_hasLine_0 (v := .int (C 119 8)) rfl dX4_hasLine_6 ?_
    refine j_icmp_ge (tgt := 16) (pc := 9) X dX4_hasLine_9 rfl (fun c4 => ?_) (fun c4 => ?_)
    · have hf := kT c4 hf
      refine j_iconst (pc := 16) X dX4_hasLine_16 kc_0 ?_
      exact hj17_1 _ hf
    · have hf := kF c4 hf
      refine j_iconst (pc := 12) X dX4_hasLine_12 kc_1 ?_
      refine j_goto (tgt := 17) (pc := 13) X dX4_hasLine_13 rfl ?_
      exact hj17_1 _ hf
theorem c_X4_hasLine {l : Launch} {D : va_G} {cI cS : ClassId} {ad : Nat → Nat} (N : Nat) (C : kS) (a1 : Int32) {r : Int32} (hf : f_X4_hasLine N C a1 = some r) : mI l yX4_hasLine wsX4_hasLine rm_X4_hasLine D cI cS (WC cI cS ad) C [.ref (ad 119), .int a1] r :=
  mI.of (by decide) rfl rfl (Nat.le_of_ble_eq_true rfl) (fun g X hR => t_X4_hasLine X  hR N a1  hf)
abbrev rm_X7_lengthOf : Room := { frames := 1, cells := 0, slots := 0, locals := 21 }
theorem lk_X7_lengthOf_0 : Cond.fieldLink RX7 25 "BlackBars$Words" "lengths" "LBlackBars$Row;" ∈ wsX7_lengthOf := List.mem_of_getElem? (i := 1) rfl
theorem iw_X7_lengthOf_X7 : ∀ w ∈ wsX70, w ∈ wsX7_lengthOf := fun _ h => List.mem_cons_of_mem _ (List.mem_append_left _ (List.mem_append_right _ h))
def f_X7_lengthOf (N : Nat) (C : kS) (k : Nat) (a1 : Int32) : Option (Int32) := (f_X3_at N C (k + 3) a1).bind (fun r2 => some r2)
theorem hd_X7_lengthOf : kHd yX7_lengthOf 1 := by decide +kernel
set_option maxHeartbeats 4000000 in
set_option maxRecDepth 100000 in
theorem t_X7_lengthOf {g : kG} {cI cS : ClassId} {ad : Nat → Nat} {C : kS} (X : Kx g cI cS cX7_lengthOf RX7 wsX7_lengthOf 2 rm_X7_lengthOf) {r : Int32} (hR : kRI g (WC cI cS ad) 2 cX7_lengthOf .int C r) (N : Nat) (k : Nat) (a1 : Int32) (hk : kd k = 7) (hf : f_X7_lengthOf N C k a1 = some r) : J g (WC cI cS ad) 2 C 0 [some (.ref (ad k)), some (.int a1)] [] := by
  unfold f_X7_lengthOf at hf
  refine j_aload_n (pc := 0) X dX7_lengthOf_0 rfl ?_
  refine j_get (pc := 1) X iw_X7_lengthOf_X7 (wc7 hk) rfl 3 (Nat.le_of_ble_eq_true rfl) lk_X7_lengthOf_0 (v := .ref (ad (k + 3))) rfl dX7_lengthOf_1 ?_
  refine j_iload_n (pc := 4) X dX7_lengthOf_4 rfl ?_
  obtain ⟨r2, h1, hf⟩ := kB hf
  refine j_callI (pc := 5) X (c_X3_at N C (k + 3) (kd7_3 hk) a1 h1) gX7_lengthOf_X3_at rfl ⟨rfl, rfl⟩ rfl hd_X3_at ⟨(Nat.le_of_ble_eq_true rfl), (Nat.le_of_ble_eq_true rfl)⟩ (wc3 (kd7_3 hk)) rfl rfl rfl (Nat.le_of_ble_eq_true rfl) rfl dX7_lengthOf_5 ?_
  exact j_retI hR dX7_lengthOf_8 hf
theorem c_X7_lengthOf {l : Launch} {D : va_G} {cI cS : ClassId} {ad : Nat → Nat} (N : Nat) (C : kS) (k : Nat) (hk : kd k = 7) (a1 : Int32) {r : Int32} (hf : f_X7_lengthOf N C k a1 = some r) : mI l yX7_lengthOf wsX7_lengthOf rm_X7_lengthOf D cI cS (WC cI cS ad) C [.ref (ad k), .int a1] r :=
  mI.of (by decide) rfl rfl (Nat.le_of_ble_eq_true rfl) (fun g X hR => t_X7_lengthOf X  hR N k a1 hk hf)
abbrev rm_X7_letterOf : Room := { frames := 1, cells := 0, slots := 0, locals := 21 }
theorem lk_X7_letterOf_0 : Cond.fieldLink RX7 21 "BlackBars$Words" "letters" "LBlackBars$Row;" ∈ wsX7_letterOf := List.mem_of_getElem? (i := 1) rfl
theorem iw_X7_letterOf_X7 : ∀ w ∈ wsX70, w ∈ wsX7_letterOf := fun _ h => List.mem_cons_of_mem _ (List.mem_append_left _ (List.mem_append_right _ h))
theorem lk_X7_letterOf_1 : Cond.fieldLink RX7 13 "BlackBars$Words" "mostLetters" "I" ∈ wsX7_letterOf := List.mem_of_getElem? (i := 2) rfl
def f_X7_letterOf (N : Nat) (C : kS) (k : Nat) (a1 : Int32) (a2 : Int32) : Option (Int32) := (f_X3_at N C (k + 1) ((a1 * (C k 1)) + a2)).bind (fun r2 => some r2)
theorem hd_X7_letterOf : kHd yX7_letterOf 2 := by decide +kernel
set_option maxHeartbeats 4000000 in
set_option maxRecDepth 100000 in
theorem t_X7_letterOf {g : kG} {cI cS : ClassId} {ad : Nat → Nat} {C : kS} (X : Kx g cI cS cX7_letterOf RX7 wsX7_letterOf 3 rm_X7_letterOf) {r : Int32} (hR : kRI g (WC cI cS ad) 3 cX7_letterOf .int C r) (N : Nat) (k : Nat) (a1 : Int32) (a2 : Int32) (hk : kd k = 7) (hf : f_X7_letterOf N C k a1 a2 = some r) : J g (WC cI cS ad) 3 C 0 [some (.ref (ad k)), some (.int a1), some (.int a2)] [] := by
  unfold f_X7_letterOf at hf
  refine j_aload_n (pc := 0) X dX7_letterOf_0 rfl ?_
  refine j_get (pc := 1) X iw_X7_letterOf_X7 (wc7 hk) rfl 2 (Nat.le_of_ble_eq_true rfl) lk_X7_letterOf_0 (v := .ref (ad (k + 1))) rfl dX7_letterOf_1 ?_
  refine j_iload_n (pc := 4) X dX7_letterOf_4 rfl ?_
  refine j_aload_n (pc := 5) X dX7_letterOf_5 rfl ?_
  refine j_get (pc := 6) X iw_X7_letterOf_X7 (wc7 hk) rfl 1 (Nat.le_of_ble_eq_true rfl) lk_X7_letterOf_1 (v := .int (C k 1)) rfl dX7_letterOf_6 ?_
  refine j_imul (pc := 9) X dX7_letterOf_9 ?_
  refine j_iload_n (pc := 10) X dX7_letterOf_10 rfl ?_
  refine j_iadd (pc := 11) X dX7_letterOf_11 ?_
  obtain ⟨r2, h1, hf⟩ := kB hf
  refine j_callI (pc := 12) X (c_X3_at N C (k + 1) (kd7_1 hk) ((a1 * (C k 1)) + a2) h1) gX7_letterOf_X3_at rfl ⟨rfl, rfl⟩ rfl hd_X3_at ⟨(Nat.le_of_ble_eq_true rfl), (Nat.le_of_ble_eq_true rfl)⟩ (wc3 (kd7_1 hk)) rfl rfl rfl (Nat.le_of_ble_eq_true rfl) rfl dX7_letterOf_12 ?_
  exact j_retI hR dX7_letterOf_15 hf
theorem c_X7_letterOf {l : Launch} {D : va_G} {cI cS : ClassId} {ad : Nat → Nat} (N : Nat) (C : kS) (k : Nat) (hk : kd k = 7) (a1 : Int32) (a2 : Int32) {r : Int32} (hf : f_X7_letterOf N C k a1 a2 = some r) : mI l yX7_letterOf wsX7_letterOf rm_X7_letterOf D cI cS (WC cI cS ad) C [.ref (ad k), .int a1, .int a2] r :=
  mI.of (by decide) rfl rfl (Nat.le_of_ble_eq_true rfl) (fun g X hR => t_X7_letterOf X  hR N k a1 a2 hk hf)
abbrev rm_X5_isForm : Room := { frames := 2, cells := 0, slots := 0, locals := 43 }
theorem lk_X5_isForm_0 : Cond.fieldLink RX5 14 "BlackBars$State" "page" "LBlackBars$Words;" ∈ wsX5_isForm := List.mem_of_getElem? (i := 1) rfl
theorem iw_X5_isForm_X5 : ∀ w ∈ wsX50, w ∈ wsX5_isForm := fun _ h => List.mem_cons_of_mem _ (List.mem_append_left _ (List.mem_append_left _ (List.mem_append_right _ h)))
theorem lk_X5_isForm_1 : Cond.fieldLink RX5 20 "BlackBars$State" "names" "LBlackBars$Words;" ∈ wsX5_isForm := List.mem_of_getElem? (i := 2) rfl
theorem lk_X5_isForm_2 : Cond.fieldLink RX5 23 "BlackBars$State" "endings" "LBlackBars$Words;" ∈ wsX5_isForm := List.mem_of_getElem? (i := 3) rfl
def lp_X5_isForm_41 (N : Nat) (C : kS) (a1 : Int32) (a2 : Int32) (a3 : Int32) (r2 : Int32) (r4 : Int32) (k106_7 : Option (Int32)) : Nat → Int32 → Option (Int32)
  | 0, _ => none
  | n + 1, x9 => if r2 ≤ x9 then k106_7 else jn (fun (t11 : Int32) => (f_X7_letterOf N C 5 a1 x9).bind (fun r14 => if r14 = t11 then lp_X5_isForm_41 N C a1 a2 a3 r2 r4 k106_7 n (x9 + 1) else some ((0 : Int32) &&& 1))) (fun j81_11 => if r4 ≤ x9 then (f_X7_letterOf N C 15 a3 (x9 - r4)).bind (fun r18 => j81_11 r18) else (f_X7_letterOf N C 10 a2 x9).bind (fun r20 => j81_11 r20))
def f_X5_isForm (N : Nat) (C : kS) (a1 : Int32) (a2 : Int32) (a3 : Int32) : Option (Int32) := (f_X7_lengthOf N C 5 a1).bind (fun r2 => (f_X7_lengthOf N C 10 a2).bind (fun r4 => (f_X7_lengthOf N C 15 a3).bind (fun r6 => if r2 = (r4 + r6) then jn (some ((1 : Int32) &&& 1)) (fun k106_7 => lp_X5_isForm_41 N C a1 a2 a3 r2 r4 k106_7 N 0) else some ((0 : Int32) &&& 1))))
theorem hd_X5_isForm : kHd yX5_isForm 3 := by decide +kernel
set_option maxHeartbeats 4000000 in
set_option maxRecDepth 100000 in
theorem lt_X5_isForm_41 {g : kG} {cI cS : ClassId} {ad : Nat → Nat} {C : kS} (X : Kx g cI cS cX5_isForm RX5 wsX5_isForm 8 rm_X5_isForm) {r : Int32} (hR : kRI g (WC cI cS ad) 8 cX5_isForm .boolean C r) (N : Nat) (a1 : Int32) (a2 : Int32) (a3 : Int32) (r2 : Int32) (r4 : Int32)  (k106_7 : Option (Int32)) (hk106_7 : ∀ (_ : Unit), k106_7 = some r → J g (WC cI cS ad) 8 C 106 [some (.ref (ad 4)), some (.int a1), some (.int a2), some (.int a3), some (.int r2), some (.int r4), none, none] []) : ∀ (n : Nat) (x9 : Int32), lp_X5_isForm_41 N C a1 a2 a3 r2 r4 k106_7 n x9 = some r → J g (WC cI cS ad) 8 C 41 [some (.ref (ad 4)), some (.int a1), some (.int a2), some (.int a3), some (.int r2), some (.int r4), some (.int x9), none] [] := by
  intro n
  induction n with
  | zero =>
    intro x9 hf
    rw [lp_X5_isForm_41] at hf
    cases hf
  | succ n ih =>
    intro x9 hf
    rw [lp_X5_isForm_41] at hf
    refine j_iload (pc := 41) X dX5_isForm_41 rfl ?_
    refine j_iload (pc := 43) X dX5_isForm_43 rfl ?_
    refine j_icmp_ge (tgt := 106) (pc := 45) X dX5_isForm_45 rfl (fun c10 => ?_) (fun c10 => ?_)
    · have hf := kT c10 hf
      refine j_weak (lv' := [some (.ref (ad 4)), some (.int a1), some (.int a2), some (.int a3), some (.int r2), some (.int r4), none, none]) (And.intro rfl (And.intro rfl (And.intro rfl (And.intro rfl (And.intro rfl (And.intro rfl trivial)))))) ?_
      exact hk106_7 () hf
    · have hf := kF c10 hf
      refine j_iload (pc := 48) X dX5_isForm_48 rfl ?_
      refine j_iload (pc := 50) X dX5_isForm_50 rfl ?_
      obtain ⟨j81_11, ej81_11, hf⟩ := jn_s hf
      have hj81_11 : ∀ (t11 : Int32), j81_11 t11 = some r → J g (WC cI cS ad) 8 C 81 [some (.ref (ad 4)), some (.int a1), some (.int a2), some (.int a3), some (.int r2), some (.int r4), some (.int x9), none] [.int t11] := by
        intro t11 hf
        have hf := jE1 ej81_11 hf
        refine j_istore (pc := 81) X dX5_isForm_81 (Nat.le_of_ble_eq_true rfl) (lv' := [some (.ref (ad 4)), some (.int a1), some (.int a2), some (.int a3), some (.int r2), some (.int r4), some (.int x9), some (.int t11)]) rfl ?_
        refine j_aload_n (pc := 83) X dX5_isForm_83 rfl ?_
        refine j_get (pc := 84) X iw_X5_isForm_X5 (wc5 kd_4) rfl 0 (Nat.le_of_ble_eq_true rfl) lk_X5_isForm_0 (v := .ref (ad 5)) rfl dX5_isForm_84 ?_
        refine j_iload_n (pc := 87) X dX5_isForm_87 rfl ?_
        refine j_iload (pc := 88) X dX5_isForm_88 rfl ?_
        obtain ⟨r14, h13, hf⟩ := kB hf
        refine j_callI (pc := 90) X (c_X7_letterOf N C 5 (kd5_1 kd_4 : kd 5 = 7) a1 x9 h13) gX5_isForm_X7_letterOf rfl ⟨rfl, rfl⟩ rfl hd_X7_letterOf ⟨(Nat.le_of_ble_eq_true rfl), (Nat.le_of_ble_eq_true rfl)⟩ (wc7 (kd5_1 kd_4 : kd 5 = 7)) rfl rfl rfl (Nat.le_of_ble_eq_true rfl) rfl dX5_isForm_90 ?_
        refine j_iload (pc := 93) X dX5_isForm_93 rfl ?_
        refine j_icmp_eq (tgt := 100) (pc := 95) X dX5_isForm_95 rfl (fun c15 => ?_) (fun c15 => ?_)
        · have hf := kT c15 hf
          refine j_iinc (pc := 100) X dX5_isForm_100 rfl (v := x9 + 1) (by rw [kc_1]) (Nat.le_of_ble_eq_true rfl) (lv' := [some (.ref (ad 4)), some (.int a1), some (.int a2), some (.int a3), some (.int r2), some (.int r4), some (.int (x9 + 1)), some (.int t11)]) rfl ?_
          refine j_goto (tgt := 41) (pc := 103) X dX5_isForm_103 rfl ?_
          refine j_weak (lv' := [some (.ref (ad 4)), some (.int a1), some (.int a2), some (.int a3), some (.int r2), some (.int r4), some (.int (x9 + 1)), none]) (And.intro rfl (And.intro rfl (And.intro rfl (And.intro rfl (And.intro rfl (And.intro rfl (And.intro rfl trivial))))))) ?_
          exact ih _ hf
        · have hf := kF c15 hf
          refine j_iconst (pc := 98) X dX5_isForm_98 kc_0 ?_
          exact j_retB hR dX5_isForm_99 hf
      refine j_icmp_ge (tgt := 68) (pc := 52) X dX5_isForm_52 rfl (fun c16 => ?_) (fun c16 => ?_)
      · have hf := kT c16 hf
        refine j_aload_n (pc := 68) X dX5_isForm_68 rfl ?_
        refine j_get (pc := 69) X iw_X5_isForm_X5 (wc5 kd_4) rfl 2 (Nat.le_of_ble_eq_true rfl) lk_X5_isForm_2 (v := .ref (ad 15)) rfl dX5_isForm_69 ?_
        refine j_iload_n (pc := 72) X dX5_isForm_72 rfl ?_
        refine j_iload (pc := 73) X dX5_isForm_73 rfl ?_
        refine j_iload (pc := 75) X dX5_isForm_75 rfl ?_
        refine j_isub (pc := 77) X dX5_isForm_77 ?_
        obtain ⟨r18, h17, hf⟩ := kB hf
        refine j_callI (pc := 78) X (c_X7_letterOf N C 15 (kd5_11 kd_4 : kd 15 = 7) a3 (x9 - r4) h17) gX5_isForm_X7_letterOf rfl ⟨rfl, rfl⟩ rfl hd_X7_letterOf ⟨(Nat.le_of_ble_eq_true rfl), (Nat.le_of_ble_eq_true rfl)⟩ (wc7 (kd5_11 kd_4 : kd 15 = 7)) rfl rfl rfl (Nat.le_of_ble_eq_true rfl) rfl dX5_isForm_78 ?_
        exact hj81_11 _ hf
      · have hf := kF c16 hf
        refine j_aload_n (pc := 55) X dX5_isForm_55 rfl ?_
        refine j_get (pc := 56) X iw_X5_isForm_X5 (wc5 kd_4) rfl 1 (Nat.le_of_ble_eq_true rfl) lk_X5_isForm_1 (v := .ref (ad 10)) rfl dX5_isForm_56 ?_
        refine j_iload_n (pc := 59) X dX5_isForm_59 rfl ?_
        refine j_iload (pc := 60) X dX5_isForm_60 rfl ?_
        obtain ⟨r20, h19, hf⟩ := kB hf
        refine j_callI (pc := 62) X (c_X7_letterOf N C 10 (kd5_6 kd_4 : kd 10 = 7) a2 x9 h19) gX5_isForm_X7_letterOf rfl ⟨rfl, rfl⟩ rfl hd_X7_letterOf ⟨(Nat.le_of_ble_eq_true rfl), (Nat.le_of_ble_eq_true rfl)⟩ (wc7 (kd5_6 kd_4 : kd 10 = 7)) rfl rfl rfl (Nat.le_of_ble_eq_true rfl) rfl dX5_isForm_62 ?_
        refine j_goto (tgt := 81) (pc := 65) X dX5_isForm_65 rfl ?_
        exact hj81_11 _ hf
set_option maxHeartbeats 4000000 in
set_option maxRecDepth 100000 in
theorem t_X5_isForm {g : kG} {cI cS : ClassId} {ad : Nat → Nat} {C : kS} (X : Kx g cI cS cX5_isForm RX5 wsX5_isForm 8 rm_X5_isForm) {r : Int32} (hR : kRI g (WC cI cS ad) 8 cX5_isForm .boolean C r) (N : Nat) (a1 : Int32) (a2 : Int32) (a3 : Int32)  (hf : f_X5_isForm N C a1 a2 a3 = some r) : J g (WC cI cS ad) 8 C 0 [some (.ref (ad 4)), some (.int a1), some (.int a2), some (.int a3), none, none, none, none] [] := by
  unfold f_X5_isForm at hf
  refine j_aload_n (pc := 0) X dX5_isForm_0 rfl ?_
  refine j_get (pc := 1) X iw_X5_isForm_X5 (wc5 kd_4) rfl 0 (Nat.le_of_ble_eq_true rfl) lk_X5_isForm_0 (v := .ref (ad 5)) rfl dX5_isForm_1 ?_
  refine j_iload_n (pc := 4) X dX5_isForm_4 rfl ?_
  obtain ⟨r2, h1, hf⟩ := kB hf
  refine j_callI (pc := 5) X (c_X7_lengthOf N C 5 (kd5_1 kd_4 : kd 5 = 7) a1 h1) gX5_isForm_X7_lengthOf rfl ⟨rfl, rfl⟩ rfl hd_X7_lengthOf ⟨(Nat.le_of_ble_eq_true rfl), (Nat.le_of_ble_eq_true rfl)⟩ (wc7 (kd5_1 kd_4 : kd 5 = 7)) rfl rfl rfl (Nat.le_of_ble_eq_true rfl) rfl dX5_isForm_5 ?_
  refine j_istore (pc := 8) X dX5_isForm_8 (Nat.le_of_ble_eq_true rfl) (lv' := [some (.ref (ad 4)), some (.int a1), some (.int a2), some (.int a3), some (.int r2), none, none, none]) rfl ?_
  refine j_aload_n (pc := 10) X dX5_isForm_10 rfl ?_
  refine j_get (pc := 11) X iw_X5_isForm_X5 (wc5 kd_4) rfl 1 (Nat.le_of_ble_eq_true rfl) lk_X5_isForm_1 (v := .ref (ad 10)) rfl dX5_isForm_11 ?_
  refine j_iload_n (pc := 14) X dX5_isForm_14 rfl ?_
  obtain ⟨r4, h3, hf⟩ := kB hf
  refine j_callI (pc := 15) X (c_X7_lengthOf N C 10 (kd5_6 kd_4 : kd 10 = 7) a2 h3) gX5_isForm_X7_lengthOf rfl ⟨rfl, rfl⟩ rfl hd_X7_lengthOf ⟨(Nat.le_of_ble_eq_true rfl), (Nat.le_of_ble_eq_true rfl)⟩ (wc7 (kd5_6 kd_4 : kd 10 = 7)) rfl rfl rfl (Nat.le_of_ble_eq_true rfl) rfl dX5_isForm_15 ?_
  refine j_istore (pc := 18) X dX5_isForm_18 (Nat.le_of_ble_eq_true rfl) (lv' := [some (.ref (ad 4)), some (.int a1), some (.int a2), some (.int a3), some (.int r2), some (.int r4), none, none]) rfl ?_
  refine j_iload (pc := 20) X dX5_isForm_20 rfl ?_
  refine j_iload (pc := 22) X dX5_isForm_22 rfl ?_
  refine j_aload_n (pc := 24) X dX5_isForm_24 rfl ?_
  refine j_get (pc := 25) X iw_X5_isForm_X5 (wc5 kd_4) rfl 2 (Nat.le_of_ble_eq_true rfl) lk_X5_isForm_2 (v := .ref (ad 15)) rfl dX5_isForm_25 ?_
  refine j_iload_n (pc := 28) X dX5_isForm_28 rfl ?_
  obtain ⟨r6, h5, hf⟩ := kB hf
  refine j_callI (pc := 29) X (c_X7_lengthOf N C 15 (kd5_11 kd_4 : kd 15 = 7) a3 h5) gX5_isForm_X7_lengthOf rfl ⟨rfl, rfl⟩ rfl hd_X7_lengthOf ⟨(Nat.le_of_ble_eq_true rfl), (Nat.le_of_ble_eq_true rfl)⟩ (wc7 (kd5_11 kd_4 : kd 15 = 7)) rfl rfl rfl (Nat.le_of_ble_eq_true rfl) rfl dX5_isForm_29 ?_
  refine j_iadd (pc := 32) X dX5_isForm_32 ?_
  refine j_icmp_eq (tgt := 38) (pc := 33) X dX5_isForm_33 rfl (fun c7 => ?_) (fun c7 => ?_)
  · have hf := kT c7 hf
    refine j_iconst (pc := 38) X dX5_isForm_38 kc_0 ?_
    refine j_istore (pc := 39) X dX5_isForm_39 (Nat.le_of_ble_eq_true rfl) (lv' := [some (.ref (ad 4)), some (.int a1), some (.int a2), some (.int a3), some (.int r2), some (.int r4), some (.int 0), none]) rfl ?_
    obtain ⟨k106_7, ek106_7, hf⟩ := jn_s hf
    have hk106_7 : ∀ (_ : Unit), k106_7 = some r → J g (WC cI cS ad) 8 C 106 [some (.ref (ad 4)), some (.int a1), some (.int a2), some (.int a3), some (.int r2), some (.int r4), none, none] [] := by
      intro _ hf
      have hf := jE0 ek106_7 hf
      refine j_iconst (pc := 106) X dX5_isForm_106 kc_1 ?_
      exact j_retB hR dX5_isForm_107 hf
    exact lt_X5_isForm_41 X hR N a1 a2 a3 r2 r4       k106_7 hk106_7 N _ hf
  · have hf := kF c7 hf
    refine j_iconst (pc := 36) X dX5_isForm_36 kc_0 ?_
    exact j_retB hR dX5_isForm_37 hf
theorem c_X5_isForm {l : Launch} {D : va_G} {cI cS : ClassId} {ad : Nat → Nat} (N : Nat) (C : kS) (a1 : Int32) (a2 : Int32) (a3 : Int32) {r : Int32} (hf : f_X5_isForm N C a1 a2 a3 = some r) : mI l yX5_isForm wsX5_isForm rm_X5_isForm D cI cS (WC cI cS ad) C [.ref (ad 4), .int a1, .int a2, .int a3] r :=
  mI.of (by decide) rfl rfl (Nat.le_of_ble_eq_true rfl) (fun g X hR => t_X5_isForm X  hR N a1 a2 a3  hf)
abbrev rm_X4_hideWords : Room := { frames := 3, cells := 0, slots := 0, locals := 70 }
theorem lk_X4_hideWords_0 : Cond.fieldLink RX4 9 "BlackBars$Sheet" "state" "LBlackBars$State;" ∈ wsX4_hideWords := List.mem_of_getElem? (i := 1) rfl
theorem iw_X4_hideWords_X4 : ∀ w ∈ wsX40, w ∈ wsX4_hideWords := fun _ h => List.mem_cons_of_mem _ (List.mem_append_left _ (List.mem_append_left _ (List.mem_append_left _ (List.mem_append_left _ (List.mem_append_right _ h)))))
theorem iw_X4_hideWords_X5 : ∀ w ∈ wsX50, w ∈ wsX4_hideWords := fun _ h => List.mem_cons_of_mem _ (List.mem_append_left _ (List.mem_append_left _ (List.mem_append_left _ (List.mem_append_right _ h))))
theorem lk_X4_hideWords_2 : Cond.fieldLink RX4 24 "BlackBars$Sheet" "formsOfWords" "LBlackBars$Row;" ∈ wsX4_hideWords := List.mem_of_getElem? (i := 3) rfl
theorem lk_X4_hideWords_3 : Cond.fieldLink RX4 28 "BlackBars$Sheet" "ownWidths" "LBlackBars$Row;" ∈ wsX4_hideWords := List.mem_of_getElem? (i := 4) rfl
theorem lk_X4_hideWords_1 : Cond.fieldLink RX4 15 "BlackBars$Sheet" "forms" "LBlackBars$Forms;" ∈ wsX4_hideWords := List.mem_of_getElem? (i := 2) rfl
def lp_X4_hideWords_20 (N : Nat) (x3 : Int32) (C4 : kS) (k71_8 : Int32 → Option (kS)) : Nat → Int32 → Int32 → Option (kS)
  | 0, _, _ => none
  | n + 1, x16, x17 => (f_X1_size N C4).bind (fun r19 => if r19 ≤ x17 then k71_8 x16 else if x16 = (-1) then (f_X1_nameOf N C4 x17).bind (fun r23 => (f_X1_endingOf N C4 x17).bind (fun r25 => (f_X5_isForm N C4 x3 r23 r25).bind (fun r27 => jn (fun (x28 : Int32) => lp_X4_hideWords_20 N x3 C4 k71_8 n x28 (x17 + 1)) (fun j65_28 => if r27 = 0 then j65_28 x16 else j65_28 x17)))) else k71_8 x16)
def lp_X4_hideWords_2 (N : Nat) (k112_1 : kS → Option (kS)) : Nat → Int32 → kS → Option (kS)
  | 0, _, _ => none
  | n + 1, x3, C4 => (f_X7_size N C4 5).bind (fun r6 => if r6 ≤ x3 then k112_1 C4 else jn (fun (x8 : Int32) => (f_X3_put N C4 120 x3 x8).bind (fun C11 => (f_X7_widthOf N C11 5 x3 20).bind (fun r13 => (f_X3_put N C11 122 x3 r13).bind (fun C15 => lp_X4_hideWords_2 N k112_1 n (x3 + 1) C15)))) (fun k71_8 => lp_X4_hideWords_20 N x3 C4 k71_8 N (-1) 0))
def f_X4_hideWords (N : Nat) (C : kS) : Option (kS) := jn (fun (C1 : kS) => some C1) (fun k112_1 => lp_X4_hideWords_2 N k112_1 N 0 C)
theorem hd_X4_hideWords : kHd yX4_hideWords 0 := by decide +kernel
set_option maxHeartbeats 4000000 in
set_option maxRecDepth 100000 in
theorem lt_X4_hideWords_20 {g : kG} {cI cS : ClassId} {ad : Nat → Nat} (X : Kx g cI cS cX4_hideWords RX4 wsX4_hideWords 4 rm_X4_hideWords) {Cr : kS} (hI : kInj 132 ad) (Y : Kw g (WC cI cS ad) (kAd 132 ad)) (hR : kRV g (WC cI cS ad) 4 cX4_hideWords Cr) (N : Nat) (x3 : Int32) (C4 : kS)  (k71_8 : Int32 → Option (kS)) (hk71_8 : ∀ (x8 : Int32), k71_8 x8 = some Cr → J g (WC cI cS ad) 4 C4 71 [some (.ref (ad 119)), some (.int x3), some (.int x8), none] []) : ∀ (n : Nat) (x16 : Int32) (x17 : Int32), lp_X4_hideWords_20 N x3 C4 k71_8 n x16 x17 = some Cr → J g (WC cI cS ad) 4 C4 20 [some (.ref (ad 119)), some (.int x3), some (.int x16), some (.int x17)] [] := by
  intro n
  induction n with
  | zero =>
    intro x16 x17 hf
    rw [lp_X4_hideWords_20] at hf
    cases hf
  | succ n ih =>
    intro x16 x17 hf
    rw [lp_X4_hideWords_20] at hf
    refine j_iload_n (pc := 20) X dX4_hideWords_20 rfl ?_
    refine j_aload_n (pc := 21) X dX4_hideWords_21 rfl ?_
    refine j_get (pc := 22) X iw_X4_hideWords_X4 (wc4 kd_119) rfl 1 (Nat.le_of_ble_eq_true rfl) lk_X4_hideWords_1 (v := .ref (ad 106)) rfl dX4_hideWords_22 ?_
    obtain ⟨r19, h18, hf⟩ := kB hf
    refine j_callI (pc := 25) X (c_X1_size N C4  h18) gX4_hideWords_X1_size rfl ⟨rfl, rfl⟩ rfl hd_X1_size ⟨(Nat.le_of_ble_eq_true rfl), (Nat.le_of_ble_eq_true rfl)⟩ (wc1 kd_106) rfl rfl rfl (Nat.le_of_ble_eq_true rfl) rfl dX4_hideWords_25 ?_
    refine j_icmp_ge (tgt := 71) (pc := 28) X dX4_hideWords_28 rfl (fun c20 => ?_) (fun c20 => ?_)
    · have hf := kT c20 hf
      refine j_weak (lv' := [some (.ref (ad 119)), some (.int x3), some (.int x16), none]) (And.intro rfl (And.intro rfl (And.intro rfl trivial))) ?_
      exact hk71_8 _ hf
    · have hf := kF c20 hf
      refine j_iload_n (pc := 31) X dX4_hideWords_31 rfl ?_
      refine j_iconst (pc := 32) X dX4_hideWords_32 kc_m1 ?_
      refine j_icmp_ne (tgt := 71) (pc := 33) X dX4_hideWords_33 rfl (fun c21 => ?_) (fun c21 => ?_)
      · have hf := kF c21 hf
        refine j_weak (lv' := [some (.ref (ad 119)), some (.int x3), some (.int x16), none]) (And.intro rfl (And.intro rfl (And.intro rfl trivial))) ?_
        exact hk71_8 _ hf
      · have hf := kT c21 hf
        refine j_aload_n (pc := 36) X dX4_hideWords_36 rfl ?_
        refine j_get (pc := 37) X iw_X4_hideWords_X4 (wc4 kd_119) rfl 0 (Nat.le_of_ble_eq_true rfl) lk_X4_hideWords_0 (v := .ref (ad 4)) rfl dX4_hideWords_37 ?_
        refine j_iload_n (pc := 40) X dX4_hideWords_40 rfl ?_
        refine j_aload_n (pc := 41) X dX4_hideWords_41 rfl ?_
        refine j_get (pc := 42) X iw_X4_hideWords_X4 (wc4 kd_119) rfl 1 (Nat.le_of_ble_eq_true rfl) lk_X4_hideWords_1 (v := .ref (ad 106)) rfl dX4_hideWords_42 ?_
        refine j_iload_n (pc := 45) X dX4_hideWords_45 rfl ?_
        obtain ⟨r23, h22, hf⟩ := kB hf
        refine j_callI (pc := 46) X (c_X1_nameOf N C4 x17 h22) gX4_hideWords_X1_nameOf rfl ⟨rfl, rfl⟩ rfl hd_X1_nameOf ⟨(Nat.le_of_ble_eq_true rfl), (Nat.le_of_ble_eq_true rfl)⟩ (wc1 kd_106) rfl rfl rfl (Nat.le_of_ble_eq_true rfl) rfl dX4_hideWords_46 ?_
        refine j_aload_n (pc := 49) X dX4_hideWords_49 rfl ?_
        refine j_get (pc := 50) X iw_X4_hideWords_X4 (wc4 kd_119) rfl 1 (Nat.le_of_ble_eq_true rfl) lk_X4_hideWords_1 (v := .ref (ad 106)) rfl dX4_hideWords_50 ?_
        refine j_iload_n (pc := 53) X dX4_hideWords_53 rfl ?_
        obtain ⟨r25, h24, hf⟩ := kB hf
        refine j_callI (pc := 54) X (c_X1_endingOf N C4 x17 h24) gX4_hideWords_X1_endingOf rfl ⟨rfl, rfl⟩ rfl hd_X1_endingOf ⟨(Nat.le_of_ble_eq_true rfl), (Nat.le_of_ble_eq_true rfl)⟩ (wc1 kd_106) rfl rfl rfl (Nat.le_of_ble_eq_true rfl) rfl dX4_hideWords_54 ?_
        obtain ⟨r27, h26, hf⟩ := kB hf
        refine j_callI (pc := 57) X (c_X5_isForm N C4 x3 r23 r25 h26) gX4_hideWords_X5_isForm rfl ⟨rfl, rfl⟩ rfl hd_X5_isForm ⟨(Nat.le_of_ble_eq_true rfl), (Nat.le_of_ble_eq_true rfl)⟩ (wc5 kd_4) rfl rfl rfl (Nat.le_of_ble_eq_true rfl) rfl dX4_hideWords_57 ?_
        obtain ⟨j65_28, ej65_28, hf⟩ := jn_s hf
        have hj65_28 : ∀ (x28 : Int32), j65_28 x28 = some Cr → J g (WC cI cS ad) 4 C4 65 [some (.ref (ad 119)), some (.int x3), some (.int x28), some (.int x17)] [] := by
          intro x28 hf
          have hf := jE1 ej65_28 hf
          refine j_iinc (pc := 65) X dX4_hideWords_65 rfl (v := x17 + 1) (by rw [kc_1]) (Nat.le_of_ble_eq_true rfl) (lv' := [some (.ref (ad 119)), some (.int x3), some (.int x28), some (.int (x17 + 1))]) rfl ?_
          refine j_goto (tgt := 20) (pc := 68) X dX4_hideWords_68 rfl ?_
          exact ih _ _ hf
        refine j_if_eq (tgt := 65) (pc := 60) X dX4_hideWords_60 rfl (fun c30 => ?_) (fun c30 => ?_)
        · have hf := kT c30 hf
          exact hj65_28 _ hf
        · have hf := kF c30 hf
          refine j_iload_n (pc := 63) X dX4_hideWords_63 rfl ?_
          refine j_istore_n (pc := 64) X dX4_hideWords_64 (Nat.le_of_ble_eq_true rfl) (lv' := [some (.ref (ad 119)), some (.int x3), some (.int x17), some (.int x17)]) rfl ?_
          exact hj65_28 _ hf
set_option maxHeartbeats 4000000 in
set_option maxRecDepth 100000 in
theorem lt_X4_hideWords_2 {g : kG} {cI cS : ClassId} {ad : Nat → Nat} (X : Kx g cI cS cX4_hideWords RX4 wsX4_hideWords 4 rm_X4_hideWords) {Cr : kS} (hI : kInj 132 ad) (Y : Kw g (WC cI cS ad) (kAd 132 ad)) (hR : kRV g (WC cI cS ad) 4 cX4_hideWords Cr) (N : Nat)   (k112_1 : kS → Option (kS)) (hk112_1 : ∀ (C1 : kS), k112_1 C1 = some Cr → J g (WC cI cS ad) 4 C1 112 [some (.ref (ad 119)), none, none, none] []) : ∀ (n : Nat) (x3 : Int32) (C4 : kS), lp_X4_hideWords_2 N k112_1 n x3 C4 = some Cr → J g (WC cI cS ad) 4 C4 2 [some (.ref (ad 119)), some (.int x3), none, none] [] := by
  intro n
  induction n with
  | zero =>
    intro x3 C4 hf
    rw [lp_X4_hideWords_2] at hf
    cases hf
  | succ n ih =>
    intro x3 C4 hf
    rw [lp_X4_hideWords_2] at hf
    refine j_iload_n (pc := 2) X dX4_hideWords_2 rfl ?_
    refine j_aload_n (pc := 3) X dX4_hideWords_3 rfl ?_
    refine j_get (pc := 4) X iw_X4_hideWords_X4 (wc4 kd_119) rfl 0 (Nat.le_of_ble_eq_true rfl) lk_X4_hideWords_0 (v := .ref (ad 4)) rfl dX4_hideWords_4 ?_
    refine j_getN (pc := 7) X iw_X4_hideWords_X5 (wc5 kd_4) rfl 0 (Nat.le_of_ble_eq_true rfl) (List.mem_of_getElem? (i := 7) rfl) (v := .ref (ad 5)) rfl dX4_hideWords_7 ?_
    obtain ⟨r6, h5, hf⟩ := kB hf
    refine j_callI (pc := 10) X (c_X7_size N C4 5 (kd5_1 kd_4 : kd 5 = 7) h5) gX4_hideWords_X7_size rfl ⟨rfl, rfl⟩ rfl hd_X7_size ⟨(Nat.le_of_ble_eq_true rfl), (Nat.le_of_ble_eq_true rfl)⟩ (wc7 (kd5_1 kd_4 : kd 5 = 7)) rfl rfl rfl (Nat.le_of_ble_eq_true rfl) rfl dX4_hideWords_10 ?_
    refine j_icmp_ge (tgt := 112) (pc := 13) X dX4_hideWords_13 rfl (fun c7 => ?_) (fun c7 => ?_)
    · have hf := kT c7 hf
      refine j_weak (lv' := [some (.ref (ad 119)), none, none, none]) (And.intro rfl trivial) ?_
      exact hk112_1 _ hf
    · have hf := kF c7 hf
      refine j_iconst (pc := 16) X dX4_hideWords_16 kc_m1 ?_
      refine j_istore_n (pc := 17) X dX4_hideWords_17 (Nat.le_of_ble_eq_true rfl) (lv' := [some (.ref (ad 119)), some (.int x3), some (.int (-1)), none]) rfl ?_
      refine j_iconst (pc := 18) X dX4_hideWords_18 kc_0 ?_
      refine j_istore_n (pc := 19) X dX4_hideWords_19 (Nat.le_of_ble_eq_true rfl) (lv' := [some (.ref (ad 119)), some (.int x3), some (.int (-1)), some (.int 0)]) rfl ?_
      obtain ⟨k71_8, ek71_8, hf⟩ := jn_s hf
      have hk71_8 : ∀ (x8 : Int32), k71_8 x8 = some Cr → J g (WC cI cS ad) 4 C4 71 [some (.ref (ad 119)), some (.int x3), some (.int x8), none] [] := by
        intro x8 hf
        have hf := jE1 ek71_8 hf
        refine j_aload_n (pc := 71) X dX4_hideWords_71 rfl ?_
        refine j_get (pc := 72) X iw_X4_hideWords_X4 (wc4 kd_119) rfl 2 (Nat.le_of_ble_eq_true rfl) lk_X4_hideWords_2 (v := .ref (ad 120)) rfl dX4_hideWords_72 ?_
        refine j_iload_n (pc := 75) X dX4_hideWords_75 rfl ?_
        refine j_iload_n (pc := 76) X dX4_hideWords_76 rfl ?_
        obtain ⟨C11, h10, hf⟩ := kB hf
        refine j_callV (pc := 77) X Y (c_X3_put hI N C4 120 kd_120 x3 x8 h10) gX4_hideWords_X3_put rfl ⟨rfl, rfl⟩ rfl hd_X3_put ⟨(Nat.le_of_ble_eq_true rfl), (Nat.le_of_ble_eq_true rfl)⟩ (wc3 kd_120) rfl rfl rfl (Nat.le_of_ble_eq_true rfl) rfl dX4_hideWords_77 ?_
        refine j_aload_n (pc := 80) X dX4_hideWords_80 rfl ?_
        refine j_get (pc := 81) X iw_X4_hideWords_X4 (wc4 kd_119) rfl 3 (Nat.le_of_ble_eq_true rfl) lk_X4_hideWords_3 (v := .ref (ad 122)) rfl dX4_hideWords_81 ?_
        refine j_iload_n (pc := 84) X dX4_hideWords_84 rfl ?_
        refine j_aload_n (pc := 85) X dX4_hideWords_85 rfl ?_
        refine j_get (pc := 86) X iw_X4_hideWords_X4 (wc4 kd_119) rfl 0 (Nat.le_of_ble_eq_true rfl) lk_X4_hideWords_0 (v := .ref (ad 4)) rfl dX4_hideWords_86 ?_
        refine j_getN (pc := 89) X iw_X4_hideWords_X5 (wc5 kd_4) rfl 0 (Nat.le_of_ble_eq_true rfl) (List.mem_of_getElem? (i := 7) rfl) (v := .ref (ad 5)) rfl dX4_hideWords_89 ?_
        refine j_iload_n (pc := 92) X dX4_hideWords_92 rfl ?_
        refine j_aload_n (pc := 93) X dX4_hideWords_93 rfl ?_
        refine j_get (pc := 94) X iw_X4_hideWords_X4 (wc4 kd_119) rfl 0 (Nat.le_of_ble_eq_true rfl) lk_X4_hideWords_0 (v := .ref (ad 4)) rfl dX4_hideWords_94 ?_
        refine j_getN (pc := 97) X iw_X4_hideWords_X5 (wc5 kd_4) rfl 3 (Nat.le_of_ble_eq_true rfl) (List.mem_of_getElem? (i := 8) rfl) (v := .ref (ad 20)) rfl dX4_hideWords_97 ?_
        obtain ⟨r13, h12, hf⟩ := kB hf
        refine j_callI (pc := 100) X (c_X7_widthOf N C11 5 (kd5_1 kd_4 : kd 5 = 7) x3 20 (kd5_16 kd_4 : kd 20 = 3) h12) gX4_hideWords_X7_widthOf rfl ⟨rfl, rfl⟩ rfl hd_X7_widthOf ⟨(Nat.le_of_ble_eq_true rfl), (Nat.le_of_ble_eq_true rfl)⟩ (wc7 (kd5_1 kd_4 : kd 5 = 7)) rfl rfl rfl (Nat.le_of_ble_eq_true rfl) rfl dX4_hideWords_100 ?_
        obtain ⟨C15, h14, hf⟩ := kB hf
        refine j_callV (pc := 103) X Y (c_X3_put hI N C11 122 kd_122 x3 r13 h14) gX4_hideWords_X3_put rfl ⟨rfl, rfl⟩ rfl hd_X3_put ⟨(Nat.le_of_ble_eq_true rfl), (Nat.le_of_ble_eq_true rfl)⟩ (wc3 kd_122) rfl rfl rfl (Nat.le_of_ble_eq_true rfl) rfl dX4_hideWords_103 ?_
        refine j_iinc (pc := 106) X dX4_hideWords_106 rfl (v := x3 + 1) (by rw [kc_1]) (Nat.le_of_ble_eq_true rfl) (lv' := [some (.ref (ad 119)), some (.int (x3 + 1)), some (.int x8), none]) rfl ?_
        refine j_goto (tgt := 2) (pc := 109) X dX4_hideWords_109 rfl ?_
        refine j_weak (lv' := [some (.ref (ad 119)), some (.int (x3 + 1)), none, none]) (And.intro rfl (And.intro rfl trivial)) ?_
        exact ih _ _ hf
      exact lt_X4_hideWords_20 X hI Y hR N x3 C4   k71_8 hk71_8 N _ _ hf
set_option maxHeartbeats 4000000 in
set_option maxRecDepth 100000 in
theorem t_X4_hideWords {g : kG} {cI cS : ClassId} {ad : Nat → Nat} (X : Kx g cI cS cX4_hideWords RX4 wsX4_hideWords 4 rm_X4_hideWords) {Cr : kS} (hI : kInj 132 ad) (Y : Kw g (WC cI cS ad) (kAd 132 ad)) (hR : kRV g (WC cI cS ad) 4 cX4_hideWords Cr) (N : Nat) (C : kS)   (hf : f_X4_hideWords N C = some Cr) : J g (WC cI cS ad) 4 C 0 [some (.ref (ad 119)), none, none, none] [] := by
  unfold f_X4_hideWords at hf
  refine j_iconst (pc := 0) X dX4_hideWords_0 kc_0 ?_
  refine j_istore_n (pc := 1) X dX4_hideWords_1 (Nat.le_of_ble_eq_true rfl) (lv' := [some (.ref (ad 119)), some (.int 0), none, none]) rfl ?_
  obtain ⟨k112_1, ek112_1, hf⟩ := jn_s hf
  have hk112_1 : ∀ (C1 : kS), k112_1 C1 = some Cr → J g (WC cI cS ad) 4 C1 112 [some (.ref (ad 119)), none, none, none] [] := by
    intro C1 hf
    have hf := jE1 ek112_1 hf
    exact j_retV hR dX4_hideWords_112 hf
  exact lt_X4_hideWords_2 X hI Y hR N   k112_1 hk112_1 N _ _ hf
theorem c_X4_hideWords {l : Launch} {D : va_G} {cI cS : ClassId} {ad : Nat → Nat} (hI : kInj 132 ad) (N : Nat) (C : kS)  {Cr : kS} (hf : f_X4_hideWords N C = some Cr) : mV l yX4_hideWords wsX4_hideWords rm_X4_hideWords D cI cS (WC cI cS ad) (kAd 132 ad) C [.ref (ad 119)] Cr :=
  mV.of (by decide) rfl rfl (Nat.le_of_ble_eq_true rfl) (WC_D hI) (fun g X Y hR => t_X4_hideWords X hI Y hR N C   hf)
abbrev rm_X4_lineCount : Room := { frames := 0, cells := 0, slots := 0, locals := 0 }
theorem lk_X4_lineCount_0 : Cond.fieldLink RX4 43 "BlackBars$Sheet" "lines" "I" ∈ wsX4_lineCount := List.mem_of_getElem? (i := 1) rfl
theorem iw_X4_lineCount_X4 : ∀ w ∈ wsX40, w ∈ wsX4_lineCount := fun _ h => List.mem_cons_of_mem _ (List.mem_append_right _ h)
def f_X4_lineCount (N : Nat) (C : kS) : Option (Int32) := some (C 119 8)
theorem hd_X4_lineCount : kHd yX4_lineCount 0 := by decide +kernel
set_option maxHeartbeats 4000000 in
set_option maxRecDepth 100000 in
theorem t_X4_lineCount {g : kG} {cI cS : ClassId} {ad : Nat → Nat} {C : kS} (X : Kx g cI cS cX4_lineCount RX4 wsX4_lineCount 1 rm_X4_lineCount) {r : Int32} (hR : kRI g (WC cI cS ad) 1 cX4_lineCount .int C r) (N : Nat)   (hf : f_X4_lineCount N C = some r) : J g (WC cI cS ad) 1 C 0 [some (.ref (ad 119))] [] := by
  unfold f_X4_lineCount at hf
  refine j_aload_n (pc := 0) X dX4_lineCount_0 rfl ?_
  refine j_get (pc := 1) X iw_X4_lineCount_X4 (wc4 kd_119) rfl 8 (Nat.le_of_ble_eq_true rfl) lk_X4_lineCount_0 (v := .int (C 119 8)) rfl dX4_lineCount_1 ?_
  exact j_retI hR dX4_lineCount_4 hf
theorem c_X4_lineCount {l : Launch} {D : va_G} {cI cS : ClassId} {ad : Nat → Nat} (N : Nat) (C : kS)  {r : Int32} (hf : f_X4_lineCount N C = some r) : mI l yX4_lineCount wsX4_lineCount rm_X4_lineCount D cI cS (WC cI cS ad) C [.ref (ad 119)] r :=
  mI.of (by decide) rfl rfl (Nat.le_of_ble_eq_true rfl) (fun g X hR => t_X4_lineCount X  hR N   hf)
abbrev rm_X4_lineOf : Room := { frames := 1, cells := 0, slots := 0, locals := 21 }
theorem lk_X4_lineOf_0 : Cond.fieldLink RX4 34 "BlackBars$Sheet" "linesOfWords" "LBlackBars$Row;" ∈ wsX4_lineOf := List.mem_of_getElem? (i := 1) rfl
theorem iw_X4_lineOf_X4 : ∀ w ∈ wsX40, w ∈ wsX4_lineOf := fun _ h => List.mem_cons_of_mem _ (List.mem_append_left _ (List.mem_append_right _ h))
def f_X4_lineOf (N : Nat) (C : kS) (a1 : Int32) : Option (Int32) := (f_X3_at N C 126 a1).bind (fun r2 => some r2)
theorem hd_X4_lineOf : kHd yX4_lineOf 1 := by decide +kernel
set_option maxHeartbeats 4000000 in
set_option maxRecDepth 100000 in
theorem t_X4_lineOf {g : kG} {cI cS : ClassId} {ad : Nat → Nat} {C : kS} (X : Kx g cI cS cX4_lineOf RX4 wsX4_lineOf 2 rm_X4_lineOf) {r : Int32} (hR : kRI g (WC cI cS ad) 2 cX4_lineOf .int C r) (N : Nat) (a1 : Int32)  (hf : f_X4_lineOf N C a1 = some r) : J g (WC cI cS ad) 2 C 0 [some (.ref (ad 119)), some (.int a1)] [] := by
  unfold f_X4_lineOf at hf
  refine j_aload_n (pc := 0) X dX4_lineOf_0 rfl ?_
  refine j_get (pc := 1) X iw_X4_lineOf_X4 (wc4 kd_119) rfl 5 (Nat.le_of_ble_eq_true rfl) lk_X4_lineOf_0 (v := .ref (ad 126)) rfl dX4_lineOf_1 ?_
  refine j_iload_n (pc := 4) X dX4_lineOf_4 rfl ?_
  obtain ⟨r2, h1, hf⟩ := kB hf
  refine j_callI (pc := 5) X (c_X3_at N C 126 kd_126 a1 h1) gX4_lineOf_X3_at rfl ⟨rfl, rfl⟩ rfl hd_X3_at ⟨(Nat.le_of_ble_eq_true rfl), (Nat.le_of_ble_eq_true rfl)⟩ (wc3 kd_126) rfl rfl rfl (Nat.le_of_ble_eq_true rfl) rfl dX4_lineOf_5 ?_
  exact j_retI hR dX4_lineOf_8 hf
theorem c_X4_lineOf {l : Launch} {D : va_G} {cI cS : ClassId} {ad : Nat → Nat} (N : Nat) (C : kS) (a1 : Int32) {r : Int32} (hf : f_X4_lineOf N C a1 = some r) : mI l yX4_lineOf wsX4_lineOf rm_X4_lineOf D cI cS (WC cI cS ad) C [.ref (ad 119), .int a1] r :=
  mI.of (by decide) rfl rfl (Nat.le_of_ble_eq_true rfl) (fun g X hR => t_X4_lineOf X  hR N a1  hf)
abbrev rm_X4_placeOf : Room := { frames := 1, cells := 0, slots := 0, locals := 21 }
theorem lk_X4_placeOf_0 : Cond.fieldLink RX4 37 "BlackBars$Sheet" "places" "LBlackBars$Row;" ∈ wsX4_placeOf := List.mem_of_getElem? (i := 1) rfl
theorem iw_X4_placeOf_X4 : ∀ w ∈ wsX40, w ∈ wsX4_placeOf := fun _ h => List.mem_cons_of_mem _ (List.mem_append_left _ (List.mem_append_right _ h))
def f_X4_placeOf (N : Nat) (C : kS) (a1 : Int32) : Option (Int32) := (f_X3_at N C 128 a1).bind (fun r2 => some r2)
theorem hd_X4_placeOf : kHd yX4_placeOf 1 := by decide +kernel
set_option maxHeartbeats 4000000 in
set_option maxRecDepth 100000 in
theorem t_X4_placeOf {g : kG} {cI cS : ClassId} {ad : Nat → Nat} {C : kS} (X : Kx g cI cS cX4_placeOf RX4 wsX4_placeOf 2 rm_X4_placeOf) {r : Int32} (hR : kRI g (WC cI cS ad) 2 cX4_placeOf .int C r) (N : Nat) (a1 : Int32)  (hf : f_X4_placeOf N C a1 = some r) : J g (WC cI cS ad) 2 C 0 [some (.ref (ad 119)), some (.int a1)] [] := by
  unfold f_X4_placeOf at hf
  refine j_aload_n (pc := 0) X dX4_placeOf_0 rfl ?_
  refine j_get (pc := 1) X iw_X4_placeOf_X4 (wc4 kd_119) rfl 6 (Nat.le_of_ble_eq_true rfl) lk_X4_placeOf_0 (v := .ref (ad 128)) rfl dX4_placeOf_1 ?_
  refine j_iload_n (pc := 4) X dX4_placeOf_4 rfl ?_
  obtain ⟨r2, h1, hf⟩ := kB hf
  refine j_callI (pc := 5) X (c_X3_at N C 128 kd_128 a1 h1) gX4_placeOf_X3_at rfl ⟨rfl, rfl⟩ rfl hd_X3_at ⟨(Nat.le_of_ble_eq_true rfl), (Nat.le_of_ble_eq_true rfl)⟩ (wc3 kd_128) rfl rfl rfl (Nat.le_of_ble_eq_true rfl) rfl dX4_placeOf_5 ?_
  exact j_retI hR dX4_placeOf_8 hf
theorem c_X4_placeOf {l : Launch} {D : va_G} {cI cS : ClassId} {ad : Nat → Nat} (N : Nat) (C : kS) (a1 : Int32) {r : Int32} (hf : f_X4_placeOf N C a1 = some r) : mI l yX4_placeOf wsX4_placeOf rm_X4_placeOf D cI cS (WC cI cS ad) C [.ref (ad 119), .int a1] r :=
  mI.of (by decide) rfl rfl (Nat.le_of_ble_eq_true rfl) (fun g X hR => t_X4_placeOf X  hR N a1  hf)
abbrev rm_X4_sumOfGaps : Room := { frames := 2, cells := 0, slots := 0, locals := 42 }
theorem lk_X4_sumOfGaps_0 : Cond.fieldLink RX4 9 "BlackBars$Sheet" "state" "LBlackBars$State;" ∈ wsX4_sumOfGaps := List.mem_of_getElem? (i := 1) rfl
theorem iw_X4_sumOfGaps_X4 : ∀ w ∈ wsX40, w ∈ wsX4_sumOfGaps := fun _ h => List.mem_cons_of_mem _ (List.mem_append_left _ (List.mem_append_left _ (List.mem_append_left _ (List.mem_append_left _ (List.mem_append_left _ (List.mem_append_right _ h))))))
theorem iw_X4_sumOfGaps_X5 : ∀ w ∈ wsX50, w ∈ wsX4_sumOfGaps := fun _ h => List.mem_cons_of_mem _ (List.mem_append_left _ (List.mem_append_left _ (List.mem_append_left _ (List.mem_append_left _ (List.mem_append_right _ h)))))
theorem lk_X4_sumOfGaps_1 : Cond.fieldLink RX4 15 "BlackBars$Sheet" "forms" "LBlackBars$Forms;" ∈ wsX4_sumOfGaps := List.mem_of_getElem? (i := 2) rfl
def lp_X4_sumOfGaps_4 (N : Nat) (C : kS) (k1 : Nat) (k57_1 : Int32 → Option (Int32)) : Nat → Int32 → Int32 → Option (Int32)
  | 0, _, _ => none
  | n + 1, x3, x4 => (f_X7_size N C 5).bind (fun r6 => if r6 ≤ x4 then k57_1 x3 else (f_X4_isHidden N C x4).bind (fun r9 => jn (fun (x10 : Int32) => lp_X4_sumOfGaps_4 N C k1 k57_1 n x10 (x4 + 1)) (fun j51_10 => if r9 = 0 then j51_10 x3 else (f_X4_formOf N C x4).bind (fun r14 => (f_X0_widthOf N C k1 r14).bind (fun r16 => (f_X4_formOf N C x4).bind (fun r18 => (f_X1_widthOf N C r18).bind (fun r20 => j51_10 (x3 + (r16 - r20)))))))))
def f_X4_sumOfGaps (N : Nat) (C : kS) (k1 : Nat) : Option (Int32) := jn (fun (x1 : Int32) => some x1) (fun k57_1 => lp_X4_sumOfGaps_4 N C k1 k57_1 N 0 0)
theorem hd_X4_sumOfGaps : kHd yX4_sumOfGaps 1 := by decide +kernel
set_option maxHeartbeats 4000000 in
set_option maxRecDepth 100000 in
theorem lt_X4_sumOfGaps_4 {g : kG} {cI cS : ClassId} {ad : Nat → Nat} {C : kS} (X : Kx g cI cS cX4_sumOfGaps RX4 wsX4_sumOfGaps 4 rm_X4_sumOfGaps) {r : Int32} (hR : kRI g (WC cI cS ad) 4 cX4_sumOfGaps .int C r) (N : Nat) (k1 : Nat) (hk1 : kd k1 = 0) (k57_1 : Int32 → Option (Int32)) (hk57_1 : ∀ (x1 : Int32), k57_1 x1 = some r → J g (WC cI cS ad) 4 C 57 [some (.ref (ad 119)), some (.ref (ad k1)), some (.int x1), none] []) : ∀ (n : Nat) (x3 : Int32) (x4 : Int32), lp_X4_sumOfGaps_4 N C k1 k57_1 n x3 x4 = some r → J g (WC cI cS ad) 4 C 4 [some (.ref (ad 119)), some (.ref (ad k1)), some (.int x3), some (.int x4)] [] := by
  intro n
  induction n with
  | zero =>
    intro x3 x4 hf
    rw [lp_X4_sumOfGaps_4] at hf
    cases hf
  | succ n ih =>
    intro x3 x4 hf
    rw [lp_X4_sumOfGaps_4] at hf
    refine j_iload_n (pc := 4) X dX4_sumOfGaps_4 rfl ?_
    refine j_aload_n (pc := 5) X dX4_sumOfGaps_5 rfl ?_
    refine j_get (pc := 6) X iw_X4_sumOfGaps_X4 (wc4 kd_119) rfl 0 (Nat.le_of_ble_eq_true rfl) lk_X4_sumOfGaps_0 (v := .ref (ad 4)) rfl dX4_sumOfGaps_6 ?_
    refine j_getN (pc := 9) X iw_X4_sumOfGaps_X5 (wc5 kd_4) rfl 0 (Nat.le_of_ble_eq_true rfl) (List.mem_of_getElem? (i := 7) rfl) (v := .ref (ad 5)) rfl dX4_sumOfGaps_9 ?_
    obtain ⟨r6, h5, hf⟩ := kB hf
    refine j_callI (pc := 12) X (c_X7_size N C 5 (kd5_1 kd_4 : kd 5 = 7) h5) gX4_sumOfGaps_X7_size rfl ⟨rfl, rfl⟩ rfl hd_X7_size ⟨(Nat.le_of_ble_eq_true rfl), (Nat.le_of_ble_eq_true rfl)⟩ (wc7 (kd5_1 kd_4 : kd 5 = 7)) rfl rfl rfl (Nat.le_of_ble_eq_true rfl) rfl dX4_sumOfGaps_12 ?_
    refine j_icmp_ge (tgt := 57) (pc := 15) X dX4_sumOfGaps_15 rfl (fun c7 => ?_) (fun c7 => ?_)
    · have hf := kT c7 hf
      refine j_weak (lv' := [some (.ref (ad 119)), some (.ref (ad k1)), some (.int x3), none]) (And.intro rfl (And.intro rfl (And.intro rfl trivial))) ?_
      exact hk57_1 _ hf
    · have hf := kF c7 hf
      refine j_aload_n (pc := 18) X dX4_sumOfGaps_18 rfl ?_
      refine j_iload_n (pc := 19) X dX4_sumOfGaps_19 rfl ?_
      obtain ⟨r9, h8, hf⟩ := kB hf
      refine j_callI (pc := 20) X (c_X4_isHidden N C x4 h8) gX4_sumOfGaps_X4_isHidden rfl ⟨rfl, rfl⟩ rfl hd_X4_isHidden ⟨(Nat.le_of_ble_eq_true rfl), (Nat.le_of_ble_eq_true rfl)⟩ (wc4 kd_119) rfl rfl rfl (Nat.le_of_ble_eq_true rfl) rfl dX4_sumOfGaps_20 ?_
      obtain ⟨j51_10, ej51_10, hf⟩ := jn_s hf
      have hj51_10 : ∀ (x10 : Int32), j51_10 x10 = some r → J g (WC cI cS ad) 4 C 51 [some (.ref (ad 119)), some (.ref (ad k1)), some (.int x10), some (.int x4)] [] := by
        intro x10 hf
        have hf := jE1 ej51_10 hf
        refine j_iinc (pc := 51) X dX4_sumOfGaps_51 rfl (v := x4 + 1) (by rw [kc_1]) (Nat.le_of_ble_eq_true rfl) (lv' := [some (.ref (ad 119)), some (.ref (ad k1)), some (.int x10), some (.int (x4 + 1))]) rfl ?_
        refine j_goto (tgt := 4) (pc := 54) X dX4_sumOfGaps_54 rfl ?_
        exact ih _ _ hf
      refine j_if_eq (tgt := 51) (pc := 23) X dX4_sumOfGaps_23 rfl (fun c12 => ?_) (fun c12 => ?_)
      · have hf := kT c12 hf
        exact hj51_10 _ hf
      · have hf := kF c12 hf
        refine j_iload_n (pc := 26) X dX4_sumOfGaps_26 rfl ?_
        refine j_aload_n (pc := 27) X dX4_sumOfGaps_27 rfl ?_
        refine j_aload_n (pc := 28) X dX4_sumOfGaps_28 rfl ?_
        refine j_iload_n (pc := 29) X dX4_sumOfGaps_29 rfl ?_
        obtain ⟨r14, h13, hf⟩ := kB hf
        refine j_callI (pc := 30) X (c_X4_formOf N C x4 h13) gX4_sumOfGaps_X4_formOf rfl ⟨rfl, rfl⟩ rfl hd_X4_formOf ⟨(Nat.le_of_ble_eq_true rfl), (Nat.le_of_ble_eq_true rfl)⟩ (wc4 kd_119) rfl rfl rfl (Nat.le_of_ble_eq_true rfl) rfl dX4_sumOfGaps_30 ?_
        obtain ⟨r16, h15, hf⟩ := kB hf
        refine j_callI (pc := 33) X (c_X0_widthOf N C k1 hk1 r14 h15) gX4_sumOfGaps_X0_widthOf rfl ⟨rfl, rfl⟩ rfl hd_X0_widthOf ⟨(Nat.le_of_ble_eq_true rfl), (Nat.le_of_ble_eq_true rfl)⟩ (wc0 hk1) rfl rfl rfl (Nat.le_of_ble_eq_true rfl) rfl dX4_sumOfGaps_33 ?_
        refine j_aload_n (pc := 36) X dX4_sumOfGaps_36 rfl ?_
        refine j_get (pc := 37) X iw_X4_sumOfGaps_X4 (wc4 kd_119) rfl 1 (Nat.le_of_ble_eq_true rfl) lk_X4_sumOfGaps_1 (v := .ref (ad 106)) rfl dX4_sumOfGaps_37 ?_
        refine j_aload_n (pc := 40) X dX4_sumOfGaps_40 rfl ?_
        refine j_iload_n (pc := 41) X dX4_sumOfGaps_41 rfl ?_
        obtain ⟨r18, h17, hf⟩ := kB hf
        refine j_callI (pc := 42) X (c_X4_formOf N C x4 h17) gX4_sumOfGaps_X4_formOf rfl ⟨rfl, rfl⟩ rfl hd_X4_formOf ⟨(Nat.le_of_ble_eq_true rfl), (Nat.le_of_ble_eq_true rfl)⟩ (wc4 kd_119) rfl rfl rfl (Nat.le_of_ble_eq_true rfl) rfl dX4_sumOfGaps_42 ?_
        obtain ⟨r20, h19, hf⟩ := kB hf
        refine j_callI (pc := 45) X (c_X1_widthOf N C r18 h19) gX4_sumOfGaps_X1_widthOf rfl ⟨rfl, rfl⟩ rfl hd_X1_widthOf ⟨(Nat.le_of_ble_eq_true rfl), (Nat.le_of_ble_eq_true rfl)⟩ (wc1 kd_106) rfl rfl rfl (Nat.le_of_ble_eq_true rfl) rfl dX4_sumOfGaps_45 ?_
        refine j_isub (pc := 48) X dX4_sumOfGaps_48 ?_
        refine j_iadd (pc := 49) X dX4_sumOfGaps_49 ?_
        refine j_istore_n (pc := 50) X dX4_sumOfGaps_50 (Nat.le_of_ble_eq_true rfl) (lv' := [some (.ref (ad 119)), some (.ref (ad k1)), some (.int (x3 + (r16 - r20))), some (.int x4)]) rfl ?_
        exact hj51_10 _ hf
set_option maxHeartbeats 4000000 in
set_option maxRecDepth 100000 in
theorem t_X4_sumOfGaps {g : kG} {cI cS : ClassId} {ad : Nat → Nat} {C : kS} (X : Kx g cI cS cX4_sumOfGaps RX4 wsX4_sumOfGaps 4 rm_X4_sumOfGaps) {r : Int32} (hR : kRI g (WC cI cS ad) 4 cX4_sumOfGaps .int C r) (N : Nat) (k1 : Nat) (hk1 : kd k1 = 0) (hf : f_X4_sumOfGaps N C k1 = some r) : J g (WC cI cS ad) 4 C 0 [some (.ref (ad 119)), some (.ref (ad k1)), none, none] [] := by
  unfold f_X4_sumOfGaps at hf
  refine j_iconst (pc := 0) X dX4_sumOfGaps_0 kc_0 ?_
  refine j_istore_n (pc := 1) X dX4_sumOfGaps_1 (Nat.le_of_ble_eq_true rfl) (lv' := [some (.ref (ad 119)), some (.ref (ad k1)), some (.int 0), none]) rfl ?_
  refine j_iconst (pc := 2) X dX4_sumOfGaps_2 kc_0 ?_
  refine j_istore_n (pc := 3) X dX4_sumOfGaps_3 (Nat.le_of_ble_eq_true rfl) (lv' := [some (.ref (ad 119)), some (.ref (ad k1)), some (.int 0), some (.int 0)]) rfl ?_
  obtain ⟨k57_1, ek57_1, hf⟩ := jn_s hf
  have hk57_1 : ∀ (x1 : Int32), k57_1 x1 = some r → J g (WC cI cS ad) 4 C 57 [some (.ref (ad 119)), some (.ref (ad k1)), some (.int x1), none] [] := by
    intro x1 hf
    have hf := jE1 ek57_1 hf
    refine j_iload_n (pc := 57) X dX4_sumOfGaps_57 rfl ?_
    exact j_retI hR dX4_sumOfGaps_58 hf
  exact lt_X4_sumOfGaps_4 X hR N k1  hk1 k57_1 hk57_1 N _ _ hf
theorem c_X4_sumOfGaps {l : Launch} {D : va_G} {cI cS : ClassId} {ad : Nat → Nat} (N : Nat) (C : kS) (k1 : Nat) (hk1 : kd k1 = 0) {r : Int32} (hf : f_X4_sumOfGaps N C k1 = some r) : mI l yX4_sumOfGaps wsX4_sumOfGaps rm_X4_sumOfGaps D cI cS (WC cI cS ad) C [.ref (ad 119), .ref (ad k1)] r :=
  mI.of (by decide) rfl rfl (Nat.le_of_ble_eq_true rfl) (fun g X hR => t_X4_sumOfGaps X  hR N k1 hk1 hf)
abbrev rm_X4_sumOfShownWidths : Room := { frames := 3, cells := 0, slots := 0, locals := 64 }
theorem lk_X4_sumOfShownWidths_0 : Cond.fieldLink RX4 9 "BlackBars$Sheet" "state" "LBlackBars$State;" ∈ wsX4_sumOfShownWidths := List.mem_of_getElem? (i := 1) rfl
theorem iw_X4_sumOfShownWidths_X4 : ∀ w ∈ wsX40, w ∈ wsX4_sumOfShownWidths := fun _ h => List.mem_cons_of_mem _ (List.mem_append_left _ (List.mem_append_left _ (List.mem_append_left _ (List.mem_append_left _ (List.mem_append_right _ h)))))
theorem iw_X4_sumOfShownWidths_X5 : ∀ w ∈ wsX50, w ∈ wsX4_sumOfShownWidths := fun _ h => List.mem_cons_of_mem _ (List.mem_append_left _ (List.mem_append_left _ (List.mem_append_left _ (List.mem_append_right _ h))))
def lp_X4_sumOfShownWidths_4 (N : Nat) (C : kS) (k1 : Nat) (k33_1 : Int32 → Option (Int32)) : Nat → Int32 → Int32 → Option (Int32)
  | 0, _, _ => none
  | n + 1, x3, x4 => (f_X7_size N C 5).bind (fun r6 => if r6 ≤ x4 then k33_1 x3 else (f_X4_widthUnder N C k1 x4).bind (fun r9 => lp_X4_sumOfShownWidths_4 N C k1 k33_1 n (x3 + r9) (x4 + 1)))
def f_X4_sumOfShownWidths (N : Nat) (C : kS) (k1 : Nat) : Option (Int32) := jn (fun (x1 : Int32) => some x1) (fun k33_1 => lp_X4_sumOfShownWidths_4 N C k1 k33_1 N 0 0)
theorem hd_X4_sumOfShownWidths : kHd yX4_sumOfShownWidths 1 := by decide +kernel
set_option maxHeartbeats 4000000 in
set_option maxRecDepth 100000 in
theorem lt_X4_sumOfShownWidths_4 {g : kG} {cI cS : ClassId} {ad : Nat → Nat} {C : kS} (X : Kx g cI cS cX4_sumOfShownWidths RX4 wsX4_sumOfShownWidths 4 rm_X4_sumOfShownWidths) {r : Int32} (hR : kRI g (WC cI cS ad) 4 cX4_sumOfShownWidths .int C r) (N : Nat) (k1 : Nat) (hk1 : kd k1 = 0) (k33_1 : Int32 → Option (Int32)) (hk33_1 : ∀ (x1 : Int32), k33_1 x1 = some r → J g (WC cI cS ad) 4 C 33 [some (.ref (ad 119)), some (.ref (ad k1)), some (.int x1), none] []) : ∀ (n : Nat) (x3 : Int32) (x4 : Int32), lp_X4_sumOfShownWidths_4 N C k1 k33_1 n x3 x4 = some r → J g (WC cI cS ad) 4 C 4 [some (.ref (ad 119)), some (.ref (ad k1)), some (.int x3), some (.int x4)] [] := by
  intro n
  induction n with
  | zero =>
    intro x3 x4 hf
    rw [lp_X4_sumOfShownWidths_4] at hf
    cases hf
  | succ n ih =>
    intro x3 x4 hf
    rw [lp_X4_sumOfShownWidths_4] at hf
    refine j_iload_n (pc := 4) X dX4_sumOfShownWidths_4 rfl ?_
    refine j_aload_n (pc := 5) X dX4_sumOfShownWidths_5 rfl ?_
    refine j_get (pc := 6) X iw_X4_sumOfShownWidths_X4 (wc4 kd_119) rfl 0 (Nat.le_of_ble_eq_true rfl) lk_X4_sumOfShownWidths_0 (v := .ref (ad 4)) rfl dX4_sumOfShownWidths_6 ?_
    refine j_getN (pc := 9) X iw_X4_sumOfShownWidths_X5 (wc5 kd_4) rfl 0 (Nat.le_of_ble_eq_true rfl) (List.mem_of_getElem? (i := 7) rfl) (v := .ref (ad 5)) rfl dX4_sumOfShownWidths_9 ?_
    obtain ⟨r6, h5, hf⟩ := kB hf
    refine j_callI (pc := 12) X (c_X7_size N C 5 (kd5_1 kd_4 : kd 5 = 7) h5) gX4_sumOfShownWidths_X7_size rfl ⟨rfl, rfl⟩ rfl hd_X7_size ⟨(Nat.le_of_ble_eq_true rfl), (Nat.le_of_ble_eq_true rfl)⟩ (wc7 (kd5_1 kd_4 : kd 5 = 7)) rfl rfl rfl (Nat.le_of_ble_eq_true rfl) rfl dX4_sumOfShownWidths_12 ?_
    refine j_icmp_ge (tgt := 33) (pc := 15) X dX4_sumOfShownWidths_15 rfl (fun c7 => ?_) (fun c7 => ?_)
    · have hf := kT c7 hf
      refine j_weak (lv' := [some (.ref (ad 119)), some (.ref (ad k1)), some (.int x3), none]) (And.intro rfl (And.intro rfl (And.intro rfl trivial))) ?_
      exact hk33_1 _ hf
    · have hf := kF c7 hf
      refine j_iload_n (pc := 18) X dX4_sumOfShownWidths_18 rfl ?_
      refine j_aload_n (pc := 19) X dX4_sumOfShownWidths_19 rfl ?_
      refine j_aload_n (pc := 20) X dX4_sumOfShownWidths_20 rfl ?_
      refine j_iload_n (pc := 21) X dX4_sumOfShownWidths_21 rfl ?_
      obtain ⟨r9, h8, hf⟩ := kB hf
      refine j_callI (pc := 22) X (c_X4_widthUnder N C k1 hk1 x4 h8) gX4_sumOfShownWidths_X4_widthUnder rfl ⟨rfl, rfl⟩ rfl hd_X4_widthUnder ⟨(Nat.le_of_ble_eq_true rfl), (Nat.le_of_ble_eq_true rfl)⟩ (wc4 kd_119) rfl rfl rfl (Nat.le_of_ble_eq_true rfl) rfl dX4_sumOfShownWidths_22 ?_
      refine j_iadd (pc := 25) X dX4_sumOfShownWidths_25 ?_
      refine j_istore_n (pc := 26) X dX4_sumOfShownWidths_26 (Nat.le_of_ble_eq_true rfl) (lv' := [some (.ref (ad 119)), some (.ref (ad k1)), some (.int (x3 + r9)), some (.int x4)]) rfl ?_
      refine j_iinc (pc := 27) X dX4_sumOfShownWidths_27 rfl (v := x4 + 1) (by rw [kc_1]) (Nat.le_of_ble_eq_true rfl) (lv' := [some (.ref (ad 119)), some (.ref (ad k1)), some (.int (x3 + r9)), some (.int (x4 + 1))]) rfl ?_
      refine j_goto (tgt := 4) (pc := 30) X dX4_sumOfShownWidths_30 rfl ?_
      exact ih _ _ hf
set_option maxHeartbeats 4000000 in
set_option maxRecDepth 100000 in
theorem t_X4_sumOfShownWidths {g : kG} {cI cS : ClassId} {ad : Nat → Nat} {C : kS} (X : Kx g cI cS cX4_sumOfShownWidths RX4 wsX4_sumOfShownWidths 4 rm_X4_sumOfShownWidths) {r : Int32} (hR : kRI g (WC cI cS ad) 4 cX4_sumOfShownWidths .int C r) (N : Nat) (k1 : Nat) (hk1 : kd k1 = 0) (hf : f_X4_sumOfShownWidths N C k1 = some r) : J g (WC cI cS ad) 4 C 0 [some (.ref (ad 119)), some (.ref (ad k1)), none, none] [] := by
  unfold f_X4_sumOfShownWidths at hf
  refine j_iconst (pc := 0) X dX4_sumOfShownWidths_0 kc_0 ?_
  refine j_istore_n (pc := 1) X dX4_sumOfShownWidths_1 (Nat.le_of_ble_eq_true rfl) (lv' := [some (.ref (ad 119)), some (.ref (ad k1)), some (.int 0), none]) rfl ?_
  refine j_iconst (pc := 2) X dX4_sumOfShownWidths_2 kc_0 ?_
  refine j_istore_n (pc := 3) X dX4_sumOfShownWidths_3 (Nat.le_of_ble_eq_true rfl) (lv' := [some (.ref (ad 119)), some (.ref (ad k1)), some (.int 0), some (.int 0)]) rfl ?_
  obtain ⟨k33_1, ek33_1, hf⟩ := jn_s hf
  have hk33_1 : ∀ (x1 : Int32), k33_1 x1 = some r → J g (WC cI cS ad) 4 C 33 [some (.ref (ad 119)), some (.ref (ad k1)), some (.int x1), none] [] := by
    intro x1 hf
    have hf := jE1 ek33_1 hf
    refine j_iload_n (pc := 33) X dX4_sumOfShownWidths_33 rfl ?_
    exact j_retI hR dX4_sumOfShownWidths_34 hf
  exact lt_X4_sumOfShownWidths_4 X hR N k1  hk1 k33_1 hk33_1 N _ _ hf
theorem c_X4_sumOfShownWidths {l : Launch} {D : va_G} {cI cS : ClassId} {ad : Nat → Nat} (N : Nat) (C : kS) (k1 : Nat) (hk1 : kd k1 = 0) {r : Int32} (hf : f_X4_sumOfShownWidths N C k1 = some r) : mI l yX4_sumOfShownWidths wsX4_sumOfShownWidths rm_X4_sumOfShownWidths D cI cS (WC cI cS ad) C [.ref (ad 119), .ref (ad k1)] r :=
  mI.of (by decide) rfl rfl (Nat.le_of_ble_eq_true rfl) (fun g X hR => t_X4_sumOfShownWidths X  hR N k1 hk1 hf)
abbrev rm_X4_widthBetween : Room := { frames := 2, cells := 0, slots := 0, locals := 42 }
theorem lk_X4_widthBetween_0 : Cond.fieldLink RX4 9 "BlackBars$Sheet" "state" "LBlackBars$State;" ∈ wsX4_widthBetween := List.mem_of_getElem? (i := 1) rfl
theorem iw_X4_widthBetween_X4 : ∀ w ∈ wsX40, w ∈ wsX4_widthBetween := fun _ h => List.mem_cons_of_mem _ (List.mem_append_left _ (List.mem_append_left _ (List.mem_append_right _ h)))
theorem iw_X4_widthBetween_X5 : ∀ w ∈ wsX50, w ∈ wsX4_widthBetween := fun _ h => List.mem_cons_of_mem _ (List.mem_append_left _ (List.mem_append_right _ h))
def lp_X4_widthBetween_5 (N : Nat) (C : kS) (a1 : Int32) (a2 : Int32) (k46_1 : Int32 → Option (Int32)) : Nat → Int32 → Int32 → Option (Int32)
  | 0, _, _ => none
  | n + 1, x3, x4 => if a2 ≤ x4 then k46_1 x3 else (f_X4_shownWidthOf N C x4).bind (fun r7 => jn (fun (x8 : Int32) => lp_X4_widthBetween_5 N C a1 a2 k46_1 n x8 (x4 + 1)) (fun j40_8 => if x4 ≤ a1 then j40_8 (x3 + r7) else (f_X3_at N C 22 3).bind (fun r12 => j40_8 ((x3 + r7) + r12))))
def f_X4_widthBetween (N : Nat) (C : kS) (a1 : Int32) (a2 : Int32) : Option (Int32) := jn (fun (x1 : Int32) => some x1) (fun k46_1 => lp_X4_widthBetween_5 N C a1 a2 k46_1 N 0 a1)
theorem hd_X4_widthBetween : kHd yX4_widthBetween 2 := by decide +kernel
set_option maxHeartbeats 4000000 in
set_option maxRecDepth 100000 in
theorem lt_X4_widthBetween_5 {g : kG} {cI cS : ClassId} {ad : Nat → Nat} {C : kS} (X : Kx g cI cS cX4_widthBetween RX4 wsX4_widthBetween 5 rm_X4_widthBetween) {r : Int32} (hR : kRI g (WC cI cS ad) 5 cX4_widthBetween .int C r) (N : Nat) (a1 : Int32) (a2 : Int32)  (k46_1 : Int32 → Option (Int32)) (hk46_1 : ∀ (x1 : Int32), k46_1 x1 = some r → J g (WC cI cS ad) 5 C 46 [some (.ref (ad 119)), some (.int a1), some (.int a2), some (.int x1), none] []) : ∀ (n : Nat) (x3 : Int32) (x4 : Int32), lp_X4_widthBetween_5 N C a1 a2 k46_1 n x3 x4 = some r → J g (WC cI cS ad) 5 C 5 [some (.ref (ad 119)), some (.int a1), some (.int a2), some (.int x3), some (.int x4)] [] := by
  intro n
  induction n with
  | zero =>
    intro x3 x4 hf
    rw [lp_X4_widthBetween_5] at hf
    cases hf
  | succ n ih =>
    intro x3 x4 hf
    rw [lp_X4_widthBetween_5] at hf
    refine j_iload (pc := 5) X dX4_widthBetween_5 rfl ?_
    refine j_iload_n (pc := 7) X dX4_widthBetween_7 rfl ?_
    refine j_icmp_ge (tgt := 46) (pc := 8) X dX4_widthBetween_8 rfl (fun c5 => ?_) (fun c5 => ?_)
    · have hf := kT c5 hf
      refine j_weak (lv' := [some (.ref (ad 119)), some (.int a1), some (.int a2), some (.int x3), none]) (And.intro rfl (And.intro rfl (And.intro rfl (And.intro rfl trivial)))) ?_
      exact hk46_1 _ hf
    · have hf := kF c5 hf
      refine j_iload_n (pc := 11) X dX4_widthBetween_11 rfl ?_
      refine j_aload_n (pc := 12) X dX4_widthBetween_12 rfl ?_
      refine j_iload (pc := 13) X dX4_widthBetween_13 rfl ?_
      obtain ⟨r7, h6, hf⟩ := kB hf
      refine j_callI (pc := 15) X (c_X4_shownWidthOf N C x4 h6) gX4_widthBetween_X4_shownWidthOf rfl ⟨rfl, rfl⟩ rfl hd_X4_shownWidthOf ⟨(Nat.le_of_ble_eq_true rfl), (Nat.le_of_ble_eq_true rfl)⟩ (wc4 kd_119) rfl rfl rfl (Nat.le_of_ble_eq_true rfl) rfl dX4_widthBetween_15 ?_
      refine j_iadd (pc := 18) X dX4_widthBetween_18 ?_
      refine j_istore_n (pc := 19) X dX4_widthBetween_19 (Nat.le_of_ble_eq_true rfl) (lv' := [some (.ref (ad 119)), some (.int a1), some (.int a2), some (.int (x3 + r7)), some (.int x4)]) rfl ?_
      refine j_iload (pc := 20) X dX4_widthBetween_20 rfl ?_
      refine j_iload_n (pc := 22) X dX4_widthBetween_22 rfl ?_
      obtain ⟨j40_8, ej40_8, hf⟩ := jn_s hf
      have hj40_8 : ∀ (x8 : Int32), j40_8 x8 = some r → J g (WC cI cS ad) 5 C 40 [some (.ref (ad 119)), some (.int a1), some (.int a2), some (.int x8), some (.int x4)] [] := by
        intro x8 hf
        have hf := jE1 ej40_8 hf
        refine j_iinc (pc := 40) X dX4_widthBetween_40 rfl (v := x4 + 1) (by rw [kc_1]) (Nat.le_of_ble_eq_true rfl) (lv' := [some (.ref (ad 119)), some (.int a1), some (.int a2), some (.int x8), some (.int (x4 + 1))]) rfl ?_
        refine j_goto (tgt := 5) (pc := 43) X dX4_widthBetween_43 rfl ?_
        exact ih _ _ hf
      refine j_icmp_le (tgt := 40) (pc := 23) X dX4_widthBetween_23 rfl (fun c10 => ?_) (fun c10 => ?_)
      · have hf := kT c10 hf
        exact hj40_8 _ hf
      · have hf := kF c10 hf
        refine j_iload_n (pc := 26) X dX4_widthBetween_26 rfl ?_
        refine j_aload_n (pc := 27) X dX4_widthBetween_27 rfl ?_
        refine j_get (pc := 28) X iw_X4_widthBetween_X4 (wc4 kd_119) rfl 0 (Nat.le_of_ble_eq_true rfl) lk_X4_widthBetween_0 (v := .ref (ad 4)) rfl dX4_widthBetween_28 ?_
        refine j_getN (pc := 31) X iw_X4_widthBetween_X5 (wc5 kd_4) rfl 4 (Nat.le_of_ble_eq_true rfl) (List.mem_of_getElem? (i := 9) rfl) (v := .ref (ad 22)) rfl dX4_widthBetween_31 ?_
        refine j_iconst (pc := 34) X dX4_widthBetween_34 kc_3 ?_
        obtain ⟨r12, h11, hf⟩ := kB hf
        refine j_callI (pc := 35) X (c_X3_at N C 22 (kd5_18 kd_4 : kd 22 = 3) 3 h11) gX4_widthBetween_X3_at rfl ⟨rfl, rfl⟩ rfl hd_X3_at ⟨(Nat.le_of_ble_eq_true rfl), (Nat.le_of_ble_eq_true rfl)⟩ (wc3 (kd5_18 kd_4 : kd 22 = 3)) rfl rfl rfl (Nat.le_of_ble_eq_true rfl) rfl dX4_widthBetween_35 ?_
        refine j_iadd (pc := 38) X dX4_widthBetween_38 ?_
        refine j_istore_n (pc := 39) X dX4_widthBetween_39 (Nat.le_of_ble_eq_true rfl) (lv' := [some (.ref (ad 119)), some (.int a1), some (.int a2), some (.int ((x3 + r7) + r12)), some (.int x4)]) rfl ?_
        exact hj40_8 _ hf
set_option maxHeartbeats 4000000 in
set_option maxRecDepth 100000 in
theorem t_X4_widthBetween {g : kG} {cI cS : ClassId} {ad : Nat → Nat} {C : kS} (X : Kx g cI cS cX4_widthBetween RX4 wsX4_widthBetween 5 rm_X4_widthBetween) {r : Int32} (hR : kRI g (WC cI cS ad) 5 cX4_widthBetween .int C r) (N : Nat) (a1 : Int32) (a2 : Int32)  (hf : f_X4_widthBetween N C a1 a2 = some r) : J g (WC cI cS ad) 5 C 0 [some (.ref (ad 119)), some (.int a1), some (.int a2), none, none] [] := by
  unfold f_X4_widthBetween at hf
  refine j_iconst (pc := 0) X dX4_widthBetween_0 kc_0 ?_
  refine j_istore_n (pc := 1) X dX4_widthBetween_1 (Nat.le_of_ble_eq_true rfl) (lv' := [some (.ref (ad 119)), some (.int a1), some (.int a2), some (.int 0), none]) rfl ?_
  refine j_iload_n (pc := 2) X dX4_widthBetween_2 rfl ?_
  refine j_istore (pc := 3) X dX4_widthBetween_3 (Nat.le_of_ble_eq_true rfl) (lv' := [some (.ref (ad 119)), some (.int a1), some (.int a2), some (.int 0), some (.int a1)]) rfl ?_
  obtain ⟨k46_1, ek46_1, hf⟩ := jn_s hf
  have hk46_1 : ∀ (x1 : Int32), k46_1 x1 = some r → J g (WC cI cS ad) 5 C 46 [some (.ref (ad 119)), some (.int a1), some (.int a2), some (.int x1), none] [] := by
    intro x1 hf
    have hf := jE1 ek46_1 hf
    refine j_iload_n (pc := 46) X dX4_widthBetween_46 rfl ?_
    exact j_retI hR dX4_widthBetween_47 hf
  exact lt_X4_widthBetween_5 X hR N a1 a2    k46_1 hk46_1 N _ _ hf
theorem c_X4_widthBetween {l : Launch} {D : va_G} {cI cS : ClassId} {ad : Nat → Nat} (N : Nat) (C : kS) (a1 : Int32) (a2 : Int32) {r : Int32} (hf : f_X4_widthBetween N C a1 a2 = some r) : mI l yX4_widthBetween wsX4_widthBetween rm_X4_widthBetween D cI cS (WC cI cS ad) C [.ref (ad 119), .int a1, .int a2] r :=
  mI.of (by decide) rfl rfl (Nat.le_of_ble_eq_true rfl) (fun g X hR => t_X4_widthBetween X  hR N a1 a2  hf)
