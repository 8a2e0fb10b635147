abbrev rm_X7_addWordsOf : Room := { frames := 3, cells := 0, slots := 0, locals := 65 }
theorem lk_X7_addWordsOf_18 : Cond.initialized RX8 ∈ wsX7_addWordsOf := List.mem_of_getElem? (i := 19) rfl
theorem lk_X7_addWordsOf_17 : Cond.static yX8_isLetter ∈ wsX7_addWordsOf := List.mem_of_getElem? (i := 18) rfl
def lp_X7_addWordsOf_4 (N : Nat) (k : Nat) (k53_1 : kS → Option (kS)) : Nat → Int32 → Int32 → kS → Option (kS)
  | 0, _, _, _ => none
  | n + 1, x3, x4, C5 => (f_X6_size N C5).bind (fun r7 => if r7 ≤ x4 then k53_1 C5 else (f_X6_at N C5 x4).bind (fun r10 => (f_X8_isLetter N r10).bind (fun r12 => jn (fun (x13 : Int32) (C14 : kS) => lp_X7_addWordsOf_4 N k k53_1 n x13 (x4 + 1) C14) (fun j47_14 => if r12 = 0 then j47_14 0 C5 else jn (fun (C17 : kS) => (f_X6_at N C17 x4).bind (fun r20 => (f_X7_addLetter N C17 k r20).bind (fun C22 => j47_14 1 C22))) (fun j36_17 => if x3 = 0 then (f_X7_beginWord N C5 k).bind (fun C25 => j36_17 C25) else j36_17 C5)))))
def f_X7_addWordsOf (N : Nat) (C : kS) (k : Nat) : Option (kS) := jn (fun (C1 : kS) => some C1) (fun k53_1 => lp_X7_addWordsOf_4 N k k53_1 N 0 0 C)
theorem hd_X7_addWordsOf : kHd yX7_addWordsOf 1 := by decide +kernel
set_option maxHeartbeats 4000000 in
set_option maxRecDepth 100000 in
theorem lt_X7_addWordsOf_4 {g : kG} {cI cS : ClassId} {ad : Nat → Nat} (X : Kx g cI cS cX7_addWordsOf RX7 wsX7_addWordsOf 4 rm_X7_addWordsOf) {Cr : kS} (hI : kInj 132 ad) (Y : Kw g (WC cI cS ad) (kAd 132 ad)) (hR : kRV g (WC cI cS ad) 4 cX7_addWordsOf Cr) (N : Nat) (k : Nat) (hk : kd k = 7) (k53_1 : kS → Option (kS)) (hk53_1 : ∀ (C1 : kS), k53_1 C1 = some Cr → J g (WC cI cS ad) 4 C1 53 [some (.ref (ad k)), some (.ref (ad 1)), none, none] []) : ∀ (n : Nat) (x3 : Int32) (x4 : Int32) (C5 : kS), lp_X7_addWordsOf_4 N k k53_1 n x3 x4 C5 = some Cr → J g (WC cI cS ad) 4 C5 4 [some (.ref (ad k)), some (.ref (ad 1)), some (.int x3), some (.int x4)] [] := by
  intro n
  induction n with
  | zero =>
    intro x3 x4 C5 hf
    rw [lp_X7_addWordsOf_4] at hf
    cases hf
  | succ n ih =>
    intro x3 x4 C5 hf
    rw [lp_X7_addWordsOf_4] at hf
    refine j_iload_n (pc := 4) X dX7_addWordsOf_4 rfl ?_
    refine j_aload_n (pc := 5) X dX7_addWordsOf_5 rfl ?_
    obtain ⟨r7, h6, hf⟩ := kB hf
    refine j_callI (pc := 6) X (c_X6_size N C5  h6) gX7_addWordsOf_X6_size rfl ⟨rfl, rfl⟩ rfl hd_X6_size ⟨(Nat.le_of_ble_eq_true rfl), (Nat.le_of_ble_eq_true rfl)⟩ (wc6 kd_1) rfl rfl rfl (Nat.le_of_ble_eq_true rfl) rfl dX7_addWordsOf_6 ?_
    refine j_icmp_ge (tgt := 53) (pc := 9) X dX7_addWordsOf_9 rfl (fun c8 => ?_) (fun c8 => ?_)
    · have hf := kT c8 hf
      refine j_weak (lv' := [some (.ref (ad k)), some (.ref (ad 1)), none, none]) (And.intro rfl (And.intro rfl trivial)) ?_
      exact hk53_1 _ hf
    · have hf := kF c8 hf
      refine j_aload_n (pc := 12) X dX7_addWordsOf_12 rfl ?_
      refine j_iload_n (pc := 13) X dX7_addWordsOf_13 rfl ?_
      obtain ⟨r10, h9, hf⟩ := kB hf
      refine j_callI (pc := 14) X (c_X6_at N C5 x4 h9) gX7_addWordsOf_X6_at rfl ⟨rfl, rfl⟩ rfl hd_X6_at ⟨(Nat.le_of_ble_eq_true rfl), (Nat.le_of_ble_eq_true rfl)⟩ (wc6 kd_1) rfl rfl rfl (Nat.le_of_ble_eq_true rfl) rfl dX7_addWordsOf_14 ?_
      obtain ⟨r12, h11, hf⟩ := kB hf
      refine j_callN (pc := 17) X (c_X8_isLetter N r10 h11) ggX7_addWordsOf_X8_isLetter rfl ⟨rfl, rfl⟩ X.2.2.2.2.2.1.2.2.2 lk_X7_addWordsOf_18 lk_X7_addWordsOf_17 hd_X8_isLetter ⟨(Nat.le_of_ble_eq_true rfl), (Nat.le_of_ble_eq_true rfl)⟩ rfl (Nat.le_of_ble_eq_true rfl) rfl dX7_addWordsOf_17 ?_
      obtain ⟨j47_14, ej47_14, hf⟩ := jn_s hf
      have hj47_14 : ∀ (x13 : Int32) (C14 : kS), j47_14 x13 C14 = some Cr → J g (WC cI cS ad) 4 C14 47 [some (.ref (ad k)), some (.ref (ad 1)), some (.int x13), some (.int x4)] [] := by
        intro x13 C14 hf
        have hf := jE2 ej47_14 hf
        refine j_iinc (pc := 47) X dX7_addWordsOf_47 rfl (v := x4 + 1) (by rw [kc_1]) (Nat.le_of_ble_eq_true rfl) (lv' := [some (.ref (ad k)), some (.ref (ad 1)), some (.int x13), some (.int (x4 + 1))]) rfl ?_
        refine j_goto (tgt := 4) (pc := 50) X dX7_addWordsOf_50 rfl ?_
        exact ih _ _ _ hf
      refine j_if_ne (tgt := 28) (pc := 20) X dX7_addWordsOf_20 rfl (fun c16 => ?_) (fun c16 => ?_)
      · have hf := kF c16 hf
        refine j_iload_n (pc := 28) X dX7_addWordsOf_28 rfl ?_
        obtain ⟨j36_17, ej36_17, hf⟩ := jn_s hf
        have hj36_17 : ∀ (C17 : kS), j36_17 C17 = some Cr → J g (WC cI cS ad) 4 C17 36 [some (.ref (ad k)), some (.ref (ad 1)), some (.int x3), some (.int x4)] [] := by
          intro C17 hf
          have hf := jE1 ej36_17 hf
          refine j_iconst (pc := 36) X dX7_addWordsOf_36 kc_1 ?_
          refine j_istore_n (pc := 37) X dX7_addWordsOf_37 (Nat.le_of_ble_eq_true rfl) (lv' := [some (.ref (ad k)), some (.ref (ad 1)), some (.int 1), some (.int x4)]) rfl ?_
          refine j_aload_n (pc := 38) X dX7_addWordsOf_38 rfl ?_
          refine j_aload_n (pc := 39) X dX7_addWordsOf_39 rfl ?_
          refine j_iload_n (pc := 40) X dX7_addWordsOf_40 rfl ?_
          obtain ⟨r20, h19, hf⟩ := kB hf
          refine j_callI (pc := 41) X (c_X6_at N C17 x4 h19) gX7_addWordsOf_X6_at rfl ⟨rfl, rfl⟩ rfl hd_X6_at ⟨(Nat.le_of_ble_eq_true rfl), (Nat.le_of_ble_eq_true rfl)⟩ (wc6 kd_1) rfl rfl rfl (Nat.le_of_ble_eq_true rfl) rfl dX7_addWordsOf_41 ?_
          obtain ⟨C22, h21, hf⟩ := kB hf
          refine j_callV (pc := 44) X Y (c_X7_addLetter hI N C17 k hk r20 h21) gX7_addWordsOf_X7_addLetter rfl ⟨rfl, rfl⟩ rfl hd_X7_addLetter ⟨(Nat.le_of_ble_eq_true rfl), (Nat.le_of_ble_eq_true rfl)⟩ (wc7 hk) rfl rfl rfl (Nat.le_of_ble_eq_true rfl) rfl dX7_addWordsOf_44 ?_
          exact hj47_14 _ _ hf
        refine j_if_ne (tgt := 36) (pc := 29) X dX7_addWordsOf_29 rfl (fun c23 => ?_) (fun c23 => ?_)
        · have hf := kF c23 hf
          exact hj36_17 _ hf
        · have hf := kT c23 hf
          refine j_aload_n (pc := 32) X dX7_addWordsOf_32 rfl ?_
          obtain ⟨C25, h24, hf⟩ := kB hf
          refine j_callV (pc := 33) X Y (c_X7_beginWord hI N C5 k hk h24) gX7_addWordsOf_X7_beginWord rfl ⟨rfl, rfl⟩ rfl hd_X7_beginWord ⟨(Nat.le_of_ble_eq_true rfl), (Nat.le_of_ble_eq_true rfl)⟩ (wc7 hk) rfl rfl rfl (Nat.le_of_ble_eq_true rfl) rfl dX7_addWordsOf_33 ?_
          exact hj36_17 _ hf
      · have hf := kT c16 hf
        refine j_iconst (pc := 23) X dX7_addWordsOf_23 kc_0 ?_
        refine j_istore_n (pc := 24) X dX7_addWordsOf_24 (Nat.le_of_ble_eq_true rfl) (lv' := [some (.ref (ad k)), some (.ref (ad 1)), some (.int 0), some (.int x4)]) rfl ?_
        refine j_goto (tgt := 47) (pc := 25) X dX7_addWordsOf_25 rfl ?_
        exact hj47_14 _ _ hf
set_option maxHeartbeats 4000000 in
set_option maxRecDepth 100000 in
theorem t_X7_addWordsOf {g : kG} {cI cS : ClassId} {ad : Nat → Nat} (X : Kx g cI cS cX7_addWordsOf RX7 wsX7_addWordsOf 4 rm_X7_addWordsOf) {Cr : kS} (hI : kInj 132 ad) (Y : Kw g (WC cI cS ad) (kAd 132 ad)) (hR : kRV g (WC cI cS ad) 4 cX7_addWordsOf Cr) (N : Nat) (C : kS) (k : Nat) (hk : kd k = 7) (hf : f_X7_addWordsOf N C k = some Cr) : J g (WC cI cS ad) 4 C 0 [some (.ref (ad k)), some (.ref (ad 1)), none, none] [] := by
  unfold f_X7_addWordsOf at hf
  refine j_iconst (pc := 0) X dX7_addWordsOf_0 kc_0 ?_
  refine j_istore_n (pc := 1) X dX7_addWordsOf_1 (Nat.le_of_ble_eq_true rfl) (lv' := [some (.ref (ad k)), some (.ref (ad 1)), some (.int 0), none]) rfl ?_
  refine j_iconst (pc := 2) X dX7_addWordsOf_2 kc_0 ?_
  refine j_istore_n (pc := 3) X dX7_addWordsOf_3 (Nat.le_of_ble_eq_true rfl) (lv' := [some (.ref (ad k)), some (.ref (ad 1)), some (.int 0), some (.int 0)]) rfl ?_
  obtain ⟨k53_1, ek53_1, hf⟩ := jn_s hf
  have hk53_1 : ∀ (C1 : kS), k53_1 C1 = some Cr → J g (WC cI cS ad) 4 C1 53 [some (.ref (ad k)), some (.ref (ad 1)), none, none] [] := by
    intro C1 hf
    have hf := jE1 ek53_1 hf
    exact j_retV hR dX7_addWordsOf_53 hf
  exact lt_X7_addWordsOf_4 X hI Y hR N k hk k53_1 hk53_1 N _ _ _ hf
theorem c_X7_addWordsOf {l : Launch} {D : va_G} {cI cS : ClassId} {ad : Nat → Nat} (hI : kInj 132 ad) (N : Nat) (C : kS) (k : Nat) (hk : kd k = 7) {Cr : kS} (hf : f_X7_addWordsOf N C k = some Cr) : mV l yX7_addWordsOf wsX7_addWordsOf rm_X7_addWordsOf D cI cS (WC cI cS ad) (kAd 132 ad) C [.ref (ad k), .ref (ad 1)] Cr :=
  mV.of (by decide) rfl rfl (Nat.le_of_ble_eq_true rfl) (WC_D hI) (fun g X Y hR => t_X7_addWordsOf X hI Y hR N C k hk hf)
abbrev rm_X7_empty : Room := { frames := 0, cells := 0, slots := 0, locals := 0 }
theorem lk_X7_empty_0 : Cond.fieldLink RX7 28 "BlackBars$Words" "size" "I" ∈ wsX7_empty := List.mem_of_getElem? (i := 1) rfl
theorem iw_X7_empty_X7 : ∀ w ∈ wsX70, w ∈ wsX7_empty := fun _ h => List.mem_cons_of_mem _ (List.mem_append_right _ h)
def f_X7_empty (N : Nat) (C : kS) (k : Nat) : Option (kS) := jn (up1 C k (upd (C k) 4 0)) (fun C1 : kS => some C1)
theorem hd_X7_empty : kHd yX7_empty 0 := by decide +kernel
set_option maxHeartbeats 4000000 in
set_option maxRecDepth 100000 in
theorem t_X7_empty {g : kG} {cI cS : ClassId} {ad : Nat → Nat} (X : Kx g cI cS cX7_empty RX7 wsX7_empty 1 rm_X7_empty) {Cr : kS} (hI : kInj 132 ad) (Y : Kw g (WC cI cS ad) (kAd 132 ad)) (hR : kRV g (WC cI cS ad) 1 cX7_empty Cr) (N : Nat) (C : kS) (k : Nat) (hk : kd k = 7) (hf : f_X7_empty N C k = some Cr) : J g (WC cI cS ad) 1 C 0 [some (.ref (ad k))] [] := by
  unfold f_X7_empty at hf
  refine j_aload_n (pc := 0) X dX7_empty_0 rfl ?_
  refine j_iconst (pc := 1) X dX7_empty_1 kc_0 ?_
  obtain ⟨C1, eC1, hf⟩ := jn_s hf
  refine j_put (C' := C1) (pc := 2) X Y iw_X7_empty_X7 tyX7 tyX7_ok nmX7 (wc7 hk) rfl 4 (Nat.le_of_ble_eq_true rfl) lk_X7_empty_0 rfl (tyX7_ok 4 (Nat.le_of_ble_eq_true rfl)) (Nat.le_of_ble_eq_true rfl) dX7_empty_2 (by rw [eC1]; exact sc7_4 hk _) ?_
  exact j_retV hR dX7_empty_5 hf
theorem c_X7_empty {l : Launch} {D : va_G} {cI cS : ClassId} {ad : Nat → Nat} (hI : kInj 132 ad) (N : Nat) (C : kS) (k : Nat) (hk : kd k = 7) {Cr : kS} (hf : f_X7_empty N C k = some Cr) : mV l yX7_empty wsX7_empty rm_X7_empty D cI cS (WC cI cS ad) (kAd 132 ad) C [.ref (ad k)] Cr :=
  mV.of (by decide) rfl rfl (Nat.le_of_ble_eq_true rfl) (WC_D hI) (fun g X Y hR => t_X7_empty X hI Y hR N C k hk hf)
abbrev rm_X7_greatestLength : Room := { frames := 0, cells := 0, slots := 0, locals := 0 }
theorem lk_X7_greatestLength_0 : Cond.fieldLink RX7 13 "BlackBars$Words" "mostLetters" "I" ∈ wsX7_greatestLength := List.mem_of_getElem? (i := 1) rfl
theorem iw_X7_greatestLength_X7 : ∀ w ∈ wsX70, w ∈ wsX7_greatestLength := fun _ h => List.mem_cons_of_mem _ (List.mem_append_right _ h)
def f_X7_greatestLength (N : Nat) (C : kS) (k : Nat) : Option (Int32) := some (C k 1)
theorem hd_X7_greatestLength : kHd yX7_greatestLength 0 := by decide +kernel
set_option maxHeartbeats 4000000 in
set_option maxRecDepth 100000 in
theorem t_X7_greatestLength {g : kG} {cI cS : ClassId} {ad : Nat → Nat} {C : kS} (X : Kx g cI cS cX7_greatestLength RX7 wsX7_greatestLength 1 rm_X7_greatestLength) {r : Int32} (hR : kRI g (WC cI cS ad) 1 cX7_greatestLength .int C r) (N : Nat) (k : Nat) (hk : kd k = 7) (hf : f_X7_greatestLength N C k = some r) : J g (WC cI cS ad) 1 C 0 [some (.ref (ad k))] [] := by
  unfold f_X7_greatestLength at hf
  refine j_aload_n (pc := 0) X dX7_greatestLength_0 rfl ?_
  refine j_get (pc := 1) X iw_X7_greatestLength_X7 (wc7 hk) rfl 1 (Nat.le_of_ble_eq_true rfl) lk_X7_greatestLength_0 (v := .int (C k 1)) rfl dX7_greatestLength_1 ?_
  exact j_retI hR dX7_greatestLength_4 hf
theorem c_X7_greatestLength {l : Launch} {D : va_G} {cI cS : ClassId} {ad : Nat → Nat} (N : Nat) (C : kS) (k : Nat) (hk : kd k = 7) {r : Int32} (hf : f_X7_greatestLength N C k = some r) : mI l yX7_greatestLength wsX7_greatestLength rm_X7_greatestLength D cI cS (WC cI cS ad) C [.ref (ad k)] r :=
  mI.of (by decide) rfl rfl (Nat.le_of_ble_eq_true rfl) (fun g X hR => t_X7_greatestLength X  hR N k hk hf)
abbrev rm_X7_has : Room := { frames := 0, cells := 0, slots := 0, locals := 0 }
theorem lk_X7_has_0 : Cond.fieldLink RX7 28 "BlackBars$Words" "size" "I" ∈ wsX7_has := List.mem_of_getElem? (i := 1) rfl
theorem iw_X7_has_X7 : ∀ w ∈ wsX70, w ∈ wsX7_has := fun _ h => List.mem_cons_of_mem _ (List.mem_append_right _ h)
def f_X7_has (N : Nat) (C : kS) (k : Nat) (a1 : Int32) : Option (Int32) := jn (fun (t1 : Int32) => some (t1 &&& 1)) (fun j17_1 => if a1 < 0 then j17_1 0 else if (C k 4) ≤ a1 then j17_1 0 else j17_1 1)
theorem hd_X7_has : kHd yX7_has 1 := by decide +kernel
set_option maxHeartbeats 4000000 in
set_option maxRecDepth 100000 in
theorem t_X7_has {g : kG} {cI cS : ClassId} {ad : Nat → Nat} {C : kS} (X : Kx g cI cS cX7_has RX7 wsX7_has 2 rm_X7_has) {r : Int32} (hR : kRI g (WC cI cS ad) 2 cX7_has .boolean C r) (N : Nat) (k : Nat) (a1 : Int32) (hk : kd k = 7) (hf : f_X7_has N C k a1 = some r) : J g (WC cI cS ad) 2 C 0 [some (.ref (ad k)), some (.int a1)] [] := by
  unfold f_X7_has at hf
  refine j_iload_n (pc := 0) X dX7_has_0 rfl ?_
  obtain ⟨j17_1, ej17_1, hf⟩ := jn_s hf
  have hj17_1 : ∀ (t1 : Int32), j17_1 t1 = some r → J g (WC cI cS ad) 2 C 17 [some (.ref (ad k)), some (.int a1)] [.int t1] := by
    intro t1 hf
    have hf := jE1 ej17_1 hf
    exact j_retB hR dX7_has_17 hf
  refine j_if_lt (tgt := 16) (pc := 1) X dX7_has_1 rfl (fun c3 => ?_) (fun c3 => ?_)
  · have hf := kT c3 hf
    refine j_iconst (pc := 16) X dX7_has_16 kc_0 ?_
    exact hj17_1 _ hf
  · have hf := kF c3 hf
    refine j_iload_n (pc := 4) X dX7_has_4 rfl ?_
    refine j_aload_n (pc := 5) X dX7_has_5 rfl ?_
    refine j_get (pc := 6) X iw_X7_has_X7 (wc7 hk) rfl 4 (Nat.le_of_ble_eq_true rfl) lk_X7_has_0 (v := .int (C k 4)) rfl dX7_has_6 ?_
    refine j_icmp_ge (tgt := 16) (pc := 9) X dX7_has_9 rfl (fun c4 => ?_) (fun c4 => ?_)
    · have hf := kT c4 hf
      refine j_iconst (pc := 16) X dX7_has_16 kc_0 ?_
      exact hj17_1 _ hf
    · have hf := kF c4 hf
      refine j_iconst (pc := 12) X dX7_has_12 kc_1 ?_
      refine j_goto (tgt := 17) (pc := 13) X dX7_has_13 rfl ?_
      exact hj17_1 _ hf
theorem c_X7_has {l : Launch} {D : va_G} {cI cS : ClassId} {ad : Nat → Nat} (N : Nat) (C : kS) (k : Nat) (hk : kd k = 7) (a1 : Int32) {r : Int32} (hf : f_X7_has N C k a1 = some r) : mI l yX7_has wsX7_has rm_X7_has D cI cS (WC cI cS ad) C [.ref (ad k), .int a1] r :=
  mI.of (by decide) rfl rfl (Nat.le_of_ble_eq_true rfl) (fun g X hR => t_X7_has X  hR N k a1 hk hf)
abbrev rm_X7_isWord : Room := { frames := 2, cells := 0, slots := 0, locals := 43 }
def lp_X7_isWord_16 (N : Nat) (C : kS) (k : Nat) (a1 : Int32) (k46_5 : Option (Int32)) : Nat → Int32 → Option (Int32)
  | 0, _ => none
  | n + 1, x7 => (f_X6_size N C).bind (fun r9 => if r9 ≤ x7 then k46_5 else (f_X7_letterOf N C k a1 x7).bind (fun r12 => (f_X6_at N C x7).bind (fun r14 => if r12 = r14 then lp_X7_isWord_16 N C k a1 k46_5 n (x7 + 1) else some ((0 : Int32) &&& 1))))
def f_X7_isWord (N : Nat) (C : kS) (k : Nat) (a1 : Int32) : Option (Int32) := (f_X7_lengthOf N C k a1).bind (fun r2 => (f_X6_size N C).bind (fun r4 => if r2 = r4 then jn (some ((1 : Int32) &&& 1)) (fun k46_5 => lp_X7_isWord_16 N C k a1 k46_5 N 0) else some ((0 : Int32) &&& 1)))
theorem hd_X7_isWord : kHd yX7_isWord 2 := by decide +kernel
set_option maxHeartbeats 4000000 in
set_option maxRecDepth 100000 in
theorem lt_X7_isWord_16 {g : kG} {cI cS : ClassId} {ad : Nat → Nat} {C : kS} (X : Kx g cI cS cX7_isWord RX7 wsX7_isWord 4 rm_X7_isWord) {r : Int32} (hR : kRI g (WC cI cS ad) 4 cX7_isWord .boolean C r) (N : Nat) (k : Nat) (a1 : Int32) (hk : kd k = 7) (k46_5 : Option (Int32)) (hk46_5 : ∀ (_ : Unit), k46_5 = some r → J g (WC cI cS ad) 4 C 46 [some (.ref (ad k)), some (.int a1), some (.ref (ad 1)), none] []) : ∀ (n : Nat) (x7 : Int32), lp_X7_isWord_16 N C k a1 k46_5 n x7 = some r → J g (WC cI cS ad) 4 C 16 [some (.ref (ad k)), some (.int a1), some (.ref (ad 1)), some (.int x7)] [] := by
  intro n
  induction n with
  | zero =>
    intro x7 hf
    rw [lp_X7_isWord_16] at hf
    cases hf
  | succ n ih =>
    intro x7 hf
    rw [lp_X7_isWord_16] at hf
    refine j_iload_n (pc := 16) X dX7_isWord_16 rfl ?_
    refine j_aload_n (pc := 17) X dX7_isWord_17 rfl ?_
    obtain ⟨r9, h8, hf⟩ := kB hf
    refine j_callI (pc := 18) X (c_X6_size N C  h8) gX7_isWord_X6_size rfl ⟨rfl, rfl⟩ rfl hd_X6_size ⟨(Nat.le_of_ble_eq_true rfl), (Nat.le_of_ble_eq_true rfl)⟩ (wc6 kd_1) rfl rfl rfl (Nat.le_of_ble_eq_true rfl) rfl dX7_isWord_18 ?_
    refine j_icmp_ge (tgt := 46) (pc := 21) X dX7_isWord_21 rfl (fun c10 => ?_) (fun c10 => ?_)
    · have hf := kT c10 hf
      refine j_weak (lv' := [some (.ref (ad k)), some (.int a1), some (.ref (ad 1)), none]) (And.intro rfl (And.intro rfl (And.intro rfl trivial))) ?_
      exact hk46_5 () hf
    · have hf := kF c10 hf
      refine j_aload_n (pc := 24) X dX7_isWord_24 rfl ?_
      refine j_iload_n (pc := 25) X dX7_isWord_25 rfl ?_
      refine j_iload_n (pc := 26) X dX7_isWord_26 rfl ?_
      obtain ⟨r12, h11, hf⟩ := kB hf
      refine j_callI (pc := 27) X (c_X7_letterOf N C k hk a1 x7 h11) gX7_isWord_X7_letterOf rfl ⟨rfl, rfl⟩ rfl hd_X7_letterOf ⟨(Nat.le_of_ble_eq_true rfl), (Nat.le_of_ble_eq_true rfl)⟩ (wc7 hk) rfl rfl rfl (Nat.le_of_ble_eq_true rfl) rfl dX7_isWord_27 ?_
      refine j_aload_n (pc := 30) X dX7_isWord_30 rfl ?_
      refine j_iload_n (pc := 31) X dX7_isWord_31 rfl ?_
      obtain ⟨r14, h13, hf⟩ := kB hf
      refine j_callI (pc := 32) X (c_X6_at N C x7 h13) gX7_isWord_X6_at rfl ⟨rfl, rfl⟩ rfl hd_X6_at ⟨(Nat.le_of_ble_eq_true rfl), (Nat.le_of_ble_eq_true rfl)⟩ (wc6 kd_1) rfl rfl rfl (Nat.le_of_ble_eq_true rfl) rfl dX7_isWord_32 ?_
      refine j_icmp_eq (tgt := 40) (pc := 35) X dX7_isWord_35 rfl (fun c15 => ?_) (fun c15 => ?_)
      · have hf := kT c15 hf
        refine j_iinc (pc := 40) X dX7_isWord_40 rfl (v := x7 + 1) (by rw [kc_1]) (Nat.le_of_ble_eq_true rfl) (lv' := [some (.ref (ad k)), some (.int a1), some (.ref (ad 1)), some (.int (x7 + 1))]) rfl ?_
        refine j_goto (tgt := 16) (pc := 43) X dX7_isWord_43 rfl ?_
        exact ih _ hf
      · have hf := kF c15 hf
        refine j_iconst (pc := 38) X dX7_isWord_38 kc_0 ?_
        exact j_retB hR dX7_isWord_39 hf
set_option maxHeartbeats 4000000 in
set_option maxRecDepth 100000 in
theorem t_X7_isWord {g : kG} {cI cS : ClassId} {ad : Nat → Nat} {C : kS} (X : Kx g cI cS cX7_isWord RX7 wsX7_isWord 4 rm_X7_isWord) {r : Int32} (hR : kRI g (WC cI cS ad) 4 cX7_isWord .boolean C r) (N : Nat) (k : Nat) (a1 : Int32) (hk : kd k = 7) (hf : f_X7_isWord N C k a1 = some r) : J g (WC cI cS ad) 4 C 0 [some (.ref (ad k)), some (.int a1), some (.ref (ad 1)), none] [] := by
  unfold f_X7_isWord at hf
  refine j_aload_n (pc := 0) X dX7_isWord_0 rfl ?_
  refine j_iload_n (pc := 1) X dX7_isWord_1 rfl ?_
  obtain ⟨r2, h1, hf⟩ := kB hf
  refine j_callI (pc := 2) X (c_X7_lengthOf N C k hk a1 h1) gX7_isWord_X7_lengthOf rfl ⟨rfl, rfl⟩ rfl hd_X7_lengthOf ⟨(Nat.le_of_ble_eq_true rfl), (Nat.le_of_ble_eq_true rfl)⟩ (wc7 hk) rfl rfl rfl (Nat.le_of_ble_eq_true rfl) rfl dX7_isWord_2 ?_
  refine j_aload_n (pc := 5) X dX7_isWord_5 rfl ?_
  obtain ⟨r4, h3, hf⟩ := kB hf
  refine j_callI (pc := 6) X (c_X6_size N C  h3) gX7_isWord_X6_size rfl ⟨rfl, rfl⟩ rfl hd_X6_size ⟨(Nat.le_of_ble_eq_true rfl), (Nat.le_of_ble_eq_true rfl)⟩ (wc6 kd_1) rfl rfl rfl (Nat.le_of_ble_eq_true rfl) rfl dX7_isWord_6 ?_
  refine j_icmp_eq (tgt := 14) (pc := 9) X dX7_isWord_9 rfl (fun c5 => ?_) (fun c5 => ?_)
  · have hf := kT c5 hf
    refine j_iconst (pc := 14) X dX7_isWord_14 kc_0 ?_
    refine j_istore_n (pc := 15) X dX7_isWord_15 (Nat.le_of_ble_eq_true rfl) (lv' := [some (.ref (ad k)), some (.int a1), some (.ref (ad 1)), some (.int 0)]) rfl ?_
    obtain ⟨k46_5, ek46_5, hf⟩ := jn_s hf
    have hk46_5 : ∀ (_ : Unit), k46_5 = some r → J g (WC cI cS ad) 4 C 46 [some (.ref (ad k)), some (.int a1), some (.ref (ad 1)), none] [] := by
      intro _ hf
      have hf := jE0 ek46_5 hf
      refine j_iconst (pc := 46) X dX7_isWord_46 kc_1 ?_
      exact j_retB hR dX7_isWord_47 hf
    exact lt_X7_isWord_16 X hR N k a1  hk  k46_5 hk46_5 N _ hf
  · have hf := kF c5 hf
    refine j_iconst (pc := 12) X dX7_isWord_12 kc_0 ?_
    exact j_retB hR dX7_isWord_13 hf
theorem c_X7_isWord {l : Launch} {D : va_G} {cI cS : ClassId} {ad : Nat → Nat} (N : Nat) (C : kS) (k : Nat) (hk : kd k = 7) (a1 : Int32) {r : Int32} (hf : f_X7_isWord N C k a1 = some r) : mI l yX7_isWord wsX7_isWord rm_X7_isWord D cI cS (WC cI cS ad) C [.ref (ad k), .int a1, .ref (ad 1)] r :=
  mI.of (by decide) rfl rfl (Nat.le_of_ble_eq_true rfl) (fun g X hR => t_X7_isWord X  hR N k a1 hk hf)
abbrev rm_X7_hasWord : Room := { frames := 3, cells := 0, slots := 0, locals := 66 }
theorem lk_X7_hasWord_0 : Cond.fieldLink RX7 28 "BlackBars$Words" "size" "I" ∈ wsX7_hasWord := List.mem_of_getElem? (i := 1) rfl
theorem iw_X7_hasWord_X7 : ∀ w ∈ wsX70, w ∈ wsX7_hasWord := fun _ h => List.mem_cons_of_mem _ (List.mem_append_left _ (List.mem_append_left _ (List.mem_append_right _ h)))
def lp_X7_hasWord_2 (N : Nat) (C : kS) (k : Nat) (k27_0 : Option (Int32)) : Nat → Int32 → Option (Int32)
  | 0, _ => none
  | n + 1, x2 => if (C k 4) ≤ x2 then k27_0 else (f_X7_isWord N C k x2).bind (fun r5 => if r5 = 0 then lp_X7_hasWord_2 N C k k27_0 n (x2 + 1) else some ((1 : Int32) &&& 1))
def f_X7_hasWord (N : Nat) (C : kS) (k : Nat) : Option (Int32) := jn (some ((0 : Int32) &&& 1)) (fun k27_0 => lp_X7_hasWord_2 N C k k27_0 N 0)
theorem hd_X7_hasWord : kHd yX7_hasWord 1 := by decide +kernel
set_option maxHeartbeats 4000000 in
set_option maxRecDepth 100000 in
theorem lt_X7_hasWord_2 {g : kG} {cI cS : ClassId} {ad : Nat → Nat} {C : kS} (X : Kx g cI cS cX7_hasWord RX7 wsX7_hasWord 3 rm_X7_hasWord) {r : Int32} (hR : kRI g (WC cI cS ad) 3 cX7_hasWord .boolean C r) (N : Nat) (k : Nat) (hk : kd k = 7) (k27_0 : Option (Int32)) (hk27_0 : ∀ (_ : Unit), k27_0 = some r → J g (WC cI cS ad) 3 C 27 [some (.ref (ad k)), some (.ref (ad 1)), none] []) : ∀ (n : Nat) (x2 : Int32), lp_X7_hasWord_2 N C k k27_0 n x2 = some r → J g (WC cI cS ad) 3 C 2 [some (.ref (ad k)), some (.ref (ad 1)), some (.int x2)] [] := by
  intro n
  induction n with
  | zero =>
    intro x2 hf
    rw [lp_X7_hasWord_2] at hf
    cases hf
  | succ n ih =>
    intro x2 hf
    rw [lp_X7_hasWord_2] at hf
    refine j_iload_n (pc := 2) X dX7_hasWord_2 rfl ?_
    refine j_aload_n (pc := 3) X dX7_hasWord_3 rfl ?_
    refine j_get (pc := 4) X iw_X7_hasWord_X7 (wc7 hk) rfl 4 (Nat.le_of_ble_eq_true rfl) lk_X7_hasWord_0 (v := .int (C k 4)) rfl dX7_hasWord_4 ?_
    refine j_icmp_ge (tgt := 27) (pc := 7) X dX7_hasWord_7 rfl (fun c3 => ?_) (fun c3 => ?_)
    · have hf := kT c3 hf
      refine j_weak (lv' := [some (.ref (ad k)), some (.ref (ad 1)), none]) (And.intro rfl (And.intro rfl trivial)) ?_
      exact hk27_0 () hf
    · have hf := kF c3 hf
      refine j_aload_n (pc := 10) X dX7_hasWord_10 rfl ?_
      refine j_iload_n (pc := 11) X dX7_hasWord_11 rfl ?_
      refine j_aload_n (pc := 12) X dX7_hasWord_12 rfl ?_
      obtain ⟨r5, h4, hf⟩ := kB hf
      refine j_callI (pc := 13) X (c_X7_isWord N C k hk x2 h4) gX7_hasWord_X7_isWord rfl ⟨rfl, rfl⟩ rfl hd_X7_isWord ⟨(Nat.le_of_ble_eq_true rfl), (Nat.le_of_ble_eq_true rfl)⟩ (wc7 hk) rfl rfl rfl (Nat.le_of_ble_eq_true rfl) rfl dX7_hasWord_13 ?_
      refine j_if_eq (tgt := 21) (pc := 16) X dX7_hasWord_16 rfl (fun c6 => ?_) (fun c6 => ?_)
      · have hf := kT c6 hf
        refine j_iinc (pc := 21) X dX7_hasWord_21 rfl (v := x2 + 1) (by rw [kc_1]) (Nat.le_of_ble_eq_true rfl) (lv' := [some (.ref (ad k)), some (.ref (ad 1)), some (.int (x2 + 1))]) rfl ?_
        refine j_goto (tgt := 2) (pc := 24) X dX7_hasWord_24 rfl ?_
        exact ih _ hf
      · have hf := kF c6 hf
        refine j_iconst (pc := 19) X dX7_hasWord_19 kc_1 ?_
        exact j_retB hR dX7_hasWord_20 hf
set_option maxHeartbeats 4000000 in
set_option maxRecDepth 100000 in
theorem t_X7_hasWord {g : kG} {cI cS : ClassId} {ad : Nat → Nat} {C : kS} (X : Kx g cI cS cX7_hasWord RX7 wsX7_hasWord 3 rm_X7_hasWord) {r : Int32} (hR : kRI g (WC cI cS ad) 3 cX7_hasWord .boolean C r) (N : Nat) (k : Nat) (hk : kd k = 7) (hf : f_X7_hasWord N C k = some r) : J g (WC cI cS ad) 3 C 0 [some (.ref (ad k)), some (.ref (ad 1)), none] [] := by
  unfold f_X7_hasWord at hf
  refine j_iconst (pc := 0) X dX7_hasWord_0 kc_0 ?_
  refine j_istore_n (pc := 1) X dX7_hasWord_1 (Nat.le_of_ble_eq_true rfl) (lv' := [some (.ref (ad k)), some (.ref (ad 1)), some (.int 0)]) rfl ?_
  obtain ⟨k27_0, ek27_0, hf⟩ := jn_s hf
  have hk27_0 : ∀ (_ : Unit), k27_0 = some r → J g (WC cI cS ad) 3 C 27 [some (.ref (ad k)), some (.ref (ad 1)), none] [] := by
    intro _ hf
    have hf := jE0 ek27_0 hf
    refine j_iconst (pc := 27) X dX7_hasWord_27 kc_0 ?_
    exact j_retB hR dX7_hasWord_28 hf
  exact lt_X7_hasWord_2 X hR N k  hk k27_0 hk27_0 N _ hf
theorem c_X7_hasWord {l : Launch} {D : va_G} {cI cS : ClassId} {ad : Nat → Nat} (N : Nat) (C : kS) (k : Nat) (hk : kd k = 7) {r : Int32} (hf : f_X7_hasWord N C k = some r) : mI l yX7_hasWord wsX7_hasWord rm_X7_hasWord D cI cS (WC cI cS ad) C [.ref (ad k), .ref (ad 1)] r :=
  mI.of (by decide) rfl rfl (Nat.le_of_ble_eq_true rfl) (fun g X hR => t_X7_hasWord X  hR N k hk hf)
abbrev rm_X7_isFull : Room := { frames := 0, cells := 0, slots := 0, locals := 0 }
theorem lk_X7_isFull_0 : Cond.fieldLink RX7 28 "BlackBars$Words" "size" "I" ∈ wsX7_isFull := List.mem_of_getElem? (i := 1) rfl
theorem iw_X7_isFull_X7 : ∀ w ∈ wsX70, w ∈ wsX7_isFull := fun _ h => List.mem_cons_of_mem _ (List.mem_append_right _ h)
theorem lk_X7_isFull_1 : Cond.fieldLink RX7 7 "BlackBars$Words" "mostWords" "I" ∈ wsX7_isFull := List.mem_of_getElem? (i := 2) rfl
def f_X7_isFull (N : Nat) (C : kS) (k : Nat) : Option (Int32) := jn (fun (t1 : Int32) => some (t1 &&& 1)) (fun j16_1 => if (C k 4) < (C k 0) then j16_1 0 else j16_1 1)
theorem hd_X7_isFull : kHd yX7_isFull 0 := by decide +kernel
set_option maxHeartbeats 4000000 in
set_option maxRecDepth 100000 in
theorem t_X7_isFull {g : kG} {cI cS : ClassId} {ad : Nat → Nat} {C : kS} (X : Kx g cI cS cX7_isFull RX7 wsX7_isFull 1 rm_X7_isFull) {r : Int32} (hR : kRI g (WC cI cS ad) 1 cX7_isFull .boolean C r) (N : Nat) (k : Nat) (hk : kd k = 7) (hf : f_X7_isFull N C k = some r) : J g (WC cI cS ad) 1 C 0 [some (.ref (ad k))] [] := by
  unfold f_X7_isFull at hf
  refine j_aload_n (pc := 0) X dX7_isFull_0 rfl ?_
  refine j_get (pc := 1) X iw_X7_isFull_X7 (wc7 hk) rfl 4 (Nat.le_of_ble_eq_true rfl) lk_X7_isFull_0 (v := .int (C k 4)) rfl dX7_isFull_1 ?_
  refine j_aload_n (pc := 4) X dX7_isFull_4 rfl ?_
  refine j_get (pc := 5) X iw_X7_isFull_X7 (wc7 hk) rfl 0 (Nat.le_of_ble_eq_true rfl) lk_X7_isFull_1 (v := .int (C k 0)) rfl dX7_isFull_5 ?_
  obtain ⟨j16_1, ej16_1, hf⟩ := jn_s hf
  have hj16_1 : ∀ (t1 : Int32), j16_1 t1 = some r → J g (WC cI cS ad) 1 C 16 [some (.ref (ad k))] [.int t1] := by
    intro t1 hf
    have hf := jE1 ej16_1 hf
    exact j_retB hR dX7_isFull_16 hf
  refine j_icmp_lt (tgt := 15) (pc := 8) X dX7_isFull_8 rfl (fun c3 => ?_) (fun c3 => ?_)
  · have hf := kT c3 hf
    refine j_iconst (pc := 15) X dX7_isFull_15 kc_0 ?_
    exact hj16_1 _ hf
  · have hf := kF c3 hf
    refine j_iconst (pc := 11) X dX7_isFull_11 kc_1 ?_
    refine j_goto (tgt := 16) (pc := 12) X dX7_isFull_12 rfl ?_
    exact hj16_1 _ hf
theorem c_X7_isFull {l : Launch} {D : va_G} {cI cS : ClassId} {ad : Nat → Nat} (N : Nat) (C : kS) (k : Nat) (hk : kd k = 7) {r : Int32} (hf : f_X7_isFull N C k = some r) : mI l yX7_isFull wsX7_isFull rm_X7_isFull D cI cS (WC cI cS ad) C [.ref (ad k)] r :=
  mI.of (by decide) rfl rfl (Nat.le_of_ble_eq_true rfl) (fun g X hR => t_X7_isFull X  hR N k hk hf)
abbrev rm_X7_remove : Room := { frames := 2, cells := 0, slots := 0, locals := 43 }
theorem lk_X7_remove_0 : Cond.fieldLink RX7 28 "BlackBars$Words" "size" "I" ∈ wsX7_remove := List.mem_of_getElem? (i := 1) rfl
theorem iw_X7_remove_X7 : ∀ w ∈ wsX70, w ∈ wsX7_remove := fun _ h => List.mem_cons_of_mem _ (List.mem_append_left _ (List.mem_append_right _ h))
theorem lk_X7_remove_1 : Cond.fieldLink RX7 25 "BlackBars$Words" "lengths" "LBlackBars$Row;" ∈ wsX7_remove := List.mem_of_getElem? (i := 2) rfl
theorem lk_X7_remove_2 : Cond.fieldLink RX7 13 "BlackBars$Words" "mostLetters" "I" ∈ wsX7_remove := List.mem_of_getElem? (i := 3) rfl
theorem lk_X7_remove_3 : Cond.fieldLink RX7 21 "BlackBars$Words" "letters" "LBlackBars$Row;" ∈ wsX7_remove := List.mem_of_getElem? (i := 4) rfl
def lp_X7_remove_38 (N : Nat) (k : Nat) (x7 : Int32) (k75_14 : kS → Option (kS)) : Nat → Int32 → kS → Option (kS)
  | 0, _, _ => none
  | n + 1, x16, C17 => if (C17 k 1) ≤ x16 then k75_14 C17 else (f_X7_letterOf N C17 k (x7 + 1) x16).bind (fun r20 => (f_X3_put N C17 (k + 1) ((x7 * (C17 k 1)) + x16) r20).bind (fun C22 => lp_X7_remove_38 N k x7 k75_14 n (x16 + 1) C22))
def lp_X7_remove_11 (N : Nat) (k : Nat) (k81_4 : kS → Option (kS)) : Nat → Int32 → kS → Option (kS)
  | 0, _, _ => none
  | n + 1, x7, C8 => if ((C8 k 4) - 1) ≤ x7 then k81_4 C8 else (f_X7_lengthOf N C8 k (x7 + 1)).bind (fun r11 => (f_X3_put N C8 (k + 3) x7 r11).bind (fun C13 => jn (fun (C14 : kS) => lp_X7_remove_11 N k k81_4 n (x7 + 1) C14) (fun k75_14 => lp_X7_remove_38 N k x7 k75_14 N 0 C13)))
def f_X7_remove (N : Nat) (C : kS) (k : Nat) (a1 : Int32) : Option (kS) := (f_X7_has N C k a1).bind (fun r2 => if r2 = 0 then some C else jn (fun (C4 : kS) => jn (up1 C4 k (upd (C4 k) 4 ((C4 k 4) - 1))) (fun C6 : kS => some C6)) (fun k81_4 => lp_X7_remove_11 N k k81_4 N a1 C))
theorem hd_X7_remove : kHd yX7_remove 1 := by decide +kernel
set_option maxHeartbeats 4000000 in
set_option maxRecDepth 100000 in
theorem lt_X7_remove_38 {g : kG} {cI cS : ClassId} {ad : Nat → Nat} (X : Kx g cI cS cX7_remove RX7 wsX7_remove 4 rm_X7_remove) {Cr : kS} (hI : kInj 132 ad) (Y : Kw g (WC cI cS ad) (kAd 132 ad)) (hR : kRV g (WC cI cS ad) 4 cX7_remove Cr) (N : Nat) (k : Nat) (a1 : Int32) (x7 : Int32) (hk : kd k = 7) (k75_14 : kS → Option (kS)) (hk75_14 : ∀ (C14 : kS), k75_14 C14 = some Cr → J g (WC cI cS ad) 4 C14 75 [some (.ref (ad k)), some (.int a1), some (.int x7), none] []) : ∀ (n : Nat) (x16 : Int32) (C17 : kS), lp_X7_remove_38 N k x7 k75_14 n x16 C17 = some Cr → J g (WC cI cS ad) 4 C17 38 [some (.ref (ad k)), some (.int a1), some (.int x7), some (.int x16)] [] := by
  intro n
  induction n with
  | zero =>
    intro x16 C17 hf
    rw [lp_X7_remove_38] at hf
    cases hf
  | succ n ih =>
    intro x16 C17 hf
    rw [lp_X7_remove_38] at hf
    refine j_iload_n (pc := 38) X dX7_remove_38 rfl ?_
    refine j_aload_n (pc := 39) X dX7_remove_39 rfl ?_
    refine j_get (pc := 40) X iw_X7_remove_X7 (wc7 hk) rfl 1 (Nat.le_of_ble_eq_true rfl) lk_X7_remove_2 (v := .int (C17 k 1)) rfl dX7_remove_40 ?_
    refine j_icmp_ge (tgt := 75) (pc := 43) X dX7_remove_43 rfl (fun c18 => ?_) (fun c18 => ?_)
    · have hf := kT c18 hf
      refine j_weak (lv' := [some (.ref (ad k)), some (.int a1), some (.int x7), none]) (And.intro rfl (And.intro rfl (And.intro rfl trivial))) ?_
      exact hk75_14 _ hf
    · have hf := kF c18 hf
      refine j_aload_n (pc := 46) X dX7_remove_46 rfl ?_
      refine j_get (pc := 47) X iw_X7_remove_X7 (wc7 hk) rfl 2 (Nat.le_of_ble_eq_true rfl) lk_X7_remove_3 (v := .ref (ad (k + 1))) rfl dX7_remove_47 ?_
      refine j_iload_n (pc := 50) X dX7_remove_50 rfl ?_
      refine j_aload_n (pc := 51) X dX7_remove_51 rfl ?_
      refine j_get (pc := 52) X iw_X7_remove_X7 (wc7 hk) rfl 1 (Nat.le_of_ble_eq_true rfl) lk_X7_remove_2 (v := .int (C17 k 1)) rfl dX7_remove_52 ?_
      refine j_imul (pc := 55) X dX7_remove_55 ?_
      refine j_iload_n (pc := 56) X dX7_remove_56 rfl ?_
      refine j_iadd (pc := 57) X dX7_remove_57 ?_
      refine j_aload_n (pc := 58) X dX7_remove_58 rfl ?_
      refine j_iload_n (pc := 59) X dX7_remove_59 rfl ?_
      refine j_iconst (pc := 60) X dX7_remove_60 kc_1 ?_
      refine j_iadd (pc := 61) X dX7_remove_61 ?_
      refine j_iload_n (pc := 62) X dX7_remove_62 rfl ?_
      obtain ⟨r20, h19, hf⟩ := kB hf
      refine j_callI (pc := 63) X (c_X7_letterOf N C17 k hk (x7 + 1) x16 h19) gX7_remove_X7_letterOf rfl ⟨rfl, rfl⟩ rfl hd_X7_letterOf ⟨(Nat.le_of_ble_eq_true rfl), (Nat.le_of_ble_eq_true rfl)⟩ (wc7 hk) rfl rfl rfl (Nat.le_of_ble_eq_true rfl) rfl dX7_remove_63 ?_
      obtain ⟨C22, h21, hf⟩ := kB hf
      refine j_callV (pc := 66) X Y (c_X3_put hI N C17 (k + 1) (kd7_1 hk) ((x7 * (C17 k 1)) + x16) r20 h21) gX7_remove_X3_put rfl ⟨rfl, rfl⟩ rfl hd_X3_put ⟨(Nat.le_of_ble_eq_true rfl), (Nat.le_of_ble_eq_true rfl)⟩ (wc3 (kd7_1 hk)) rfl rfl rfl (Nat.le_of_ble_eq_true rfl) rfl dX7_remove_66 ?_
      refine j_iinc (pc := 69) X dX7_remove_69 rfl (v := x16 + 1) (by rw [kc_1]) (Nat.le_of_ble_eq_true rfl) (lv' := [some (.ref (ad k)), some (.int a1), some (.int x7), some (.int (x16 + 1))]) rfl ?_
      refine j_goto (tgt := 38) (pc := 72) X dX7_remove_72 rfl ?_
      exact ih _ _ hf
set_option maxHeartbeats 4000000 in
set_option maxRecDepth 100000 in
theorem lt_X7_remove_11 {g : kG} {cI cS : ClassId} {ad : Nat → Nat} (X : Kx g cI cS cX7_remove RX7 wsX7_remove 4 rm_X7_remove) {Cr : kS} (hI : kInj 132 ad) (Y : Kw g (WC cI cS ad) (kAd 132 ad)) (hR : kRV g (WC cI cS ad) 4 cX7_remove Cr) (N : Nat) (k : Nat) (a1 : Int32) (hk : kd k = 7) (k81_4 : kS → Option (kS)) (hk81_4 : ∀ (C4 : kS), k81_4 C4 = some Cr → J g (WC cI cS ad) 4 C4 81 [some (.ref (ad k)), some (.int a1), none, none] []) : ∀ (n : Nat) (x7 : Int32) (C8 : kS), lp_X7_remove_11 N k k81_4 n x7 C8 = some Cr → J g (WC cI cS ad) 4 C8 11 [some (.ref (ad k)), some (.int a1), some (.int x7), none] [] := by
  intro n
  induction n with
  | zero =>
    intro x7 C8 hf
    rw [lp_X7_remove_11] at hf
    cases hf
  | succ n ih =>
    intro x7 C8 hf
    rw [lp_X7_remove_11] at hf
    refine j_iload_n (pc := 11) X dX7_remove_11 rfl ?_
    refine j_aload_n (pc := 12) X dX7_remove_12 rfl ?_
    refine j_get (pc := 13) X iw_X7_remove_X7 (wc7 hk) rfl 4 (Nat.le_of_ble_eq_true rfl) lk_X7_remove_0 (v := .int (C8 k 4)) rfl dX7_remove_13 ?_
    refine j_iconst (pc := 16) X dX7_remove_16 kc_1 ?_
    refine j_isub (pc := 17) X dX7_remove_17 ?_
    refine j_icmp_ge (tgt := 81) (pc := 18) X dX7_remove_18 rfl (fun c9 => ?_) (fun c9 => ?_)
    · have hf := kT c9 hf
      refine j_weak (lv' := [some (.ref (ad k)), some (.int a1), none, none]) (And.intro rfl (And.intro rfl trivial)) ?_
      exact hk81_4 _ hf
    · have hf := kF c9 hf
      refine j_aload_n (pc := 21) X dX7_remove_21 rfl ?_
      refine j_get (pc := 22) X iw_X7_remove_X7 (wc7 hk) rfl 3 (Nat.le_of_ble_eq_true rfl) lk_X7_remove_1 (v := .ref (ad (k + 3))) rfl dX7_remove_22 ?_
      refine j_iload_n (pc := 25) X dX7_remove_25 rfl ?_
      refine j_aload_n (pc := 26) X dX7_remove_26 rfl ?_
      refine j_iload_n (pc := 27) X dX7_remove_27 rfl ?_
      refine j_iconst (pc := 28) X dX7_remove_28 kc_1 ?_
      refine j_iadd (pc := 29) X dX7_remove_29 ?_
      obtain ⟨r11, h10, hf⟩ := kB hf
      refine j_callI (pc := 30) X (c_X7_lengthOf N C8 k hk (x7 + 1) h10) gX7_remove_X7_lengthOf rfl ⟨rfl, rfl⟩ rfl hd_X7_lengthOf ⟨(Nat.le_of_ble_eq_true rfl), (Nat.le_of_ble_eq_true rfl)⟩ (wc7 hk) rfl rfl rfl (Nat.le_of_ble_eq_true rfl) rfl dX7_remove_30 ?_
      obtain ⟨C13, h12, hf⟩ := kB hf
      refine j_callV (pc := 33) X Y (c_X3_put hI N C8 (k + 3) (kd7_3 hk) x7 r11 h12) gX7_remove_X3_put rfl ⟨rfl, rfl⟩ rfl hd_X3_put ⟨(Nat.le_of_ble_eq_true rfl), (Nat.le_of_ble_eq_true rfl)⟩ (wc3 (kd7_3 hk)) rfl rfl rfl (Nat.le_of_ble_eq_true rfl) rfl dX7_remove_33 ?_
      refine j_iconst (pc := 36) X dX7_remove_36 kc_0 ?_
      refine j_istore_n (pc := 37) X dX7_remove_37 (Nat.le_of_ble_eq_true rfl) (lv' := [some (.ref (ad k)), some (.int a1), some (.int x7), some (.int 0)]) rfl ?_
      obtain ⟨k75_14, ek75_14, hf⟩ := jn_s hf
      have hk75_14 : ∀ (C14 : kS), k75_14 C14 = some Cr → J g (WC cI cS ad) 4 C14 75 [some (.ref (ad k)), some (.int a1), some (.int x7), none] [] := by
        intro C14 hf
        have hf := jE1 ek75_14 hf
        refine j_iinc (pc := 75) X dX7_remove_75 rfl (v := x7 + 1) (by rw [kc_1]) (Nat.le_of_ble_eq_true rfl) (lv' := [some (.ref (ad k)), some (.int a1), some (.int (x7 + 1)), none]) rfl ?_
        refine j_goto (tgt := 11) (pc := 78) X dX7_remove_78 rfl ?_
        exact ih _ _ hf
      exact lt_X7_remove_38 X hI Y hR N k a1 x7 hk   k75_14 hk75_14 N _ _ hf
set_option maxHeartbeats 4000000 in
set_option maxRecDepth 100000 in
theorem t_X7_remove {g : kG} {cI cS : ClassId} {ad : Nat → Nat} (X : Kx g cI cS cX7_remove RX7 wsX7_remove 4 rm_X7_remove) {Cr : kS} (hI : kInj 132 ad) (Y : Kw g (WC cI cS ad) (kAd 132 ad)) (hR : kRV g (WC cI cS ad) 4 cX7_remove Cr) (N : Nat) (C : kS) (k : Nat) (a1 : Int32) (hk : kd k = 7) (hf : f_X7_remove N C k a1 = some Cr) : J g (WC cI cS ad) 4 C 0 [some (.ref (ad k)), some (.int a1), none, none] [] := by
  unfold f_X7_remove at hf
  refine j_aload_n (pc := 0) X dX7_remove_0 rfl ?_
  refine j_iload_n (pc := 1) X dX7_remove_1 rfl ?_
  obtain ⟨r2, h1, hf⟩ := kB hf
  refine j_callI (pc := 2) X (c_X7_has N C k hk a1 h1) gX7_remove_X7_has rfl ⟨rfl, rfl⟩ rfl hd_X7_has ⟨(Nat.le_of_ble_eq_true rfl), (Nat.le_of_ble_eq_true rfl)⟩ (wc7 hk) rfl rfl rfl (Nat.le_of_ble_eq_true rfl) rfl dX7_remove_2 ?_
  refine j_if_ne (tgt := 9) (pc := 5) X dX7_remove_5 rfl (fun c3 => ?_) (fun c3 => ?_)
  · have hf := kF c3 hf
    refine j_iload_n (pc := 9) X dX7_remove_9 rfl ?_
    refine j_istore_n (pc := 10) X dX7_remove_10 (Nat.le_of_ble_eq_true rfl) (lv' := [some (.ref (ad k)), some (.int a1), some (.int a1), none]) rfl ?_
    obtain ⟨k81_4, ek81_4, hf⟩ := jn_s hf
    have hk81_4 : ∀ (C4 : kS), k81_4 C4 = some Cr → J g (WC cI cS ad) 4 C4 81 [some (.ref (ad k)), some (.int a1), none, none] [] := by
      intro C4 hf
      have hf := jE1 ek81_4 hf
      refine j_aload_n (pc := 81) X dX7_remove_81 rfl ?_
      refine j_dup (pc := 82) X dX7_remove_82 rfl ?_
      refine j_get (pc := 83) X iw_X7_remove_X7 (wc7 hk) rfl 4 (Nat.le_of_ble_eq_true rfl) lk_X7_remove_0 (v := .int (C4 k 4)) rfl dX7_remove_83 ?_
      refine j_iconst (pc := 86) X dX7_remove_86 kc_1 ?_
      refine j_isub (pc := 87) X dX7_remove_87 ?_
      obtain ⟨C6, eC6, hf⟩ := jn_s hf
      refine j_put (C' := C6) (pc := 88) X Y iw_X7_remove_X7 tyX7 tyX7_ok nmX7 (wc7 hk) rfl 4 (Nat.le_of_ble_eq_true rfl) lk_X7_remove_0 rfl (tyX7_ok 4 (Nat.le_of_ble_eq_true rfl)) (Nat.le_of_ble_eq_true rfl) dX7_remove_88 (by rw [eC6]; exact sc7_4 hk _) ?_
      exact j_retV hR dX7_remove_91 hf
    exact lt_X7_remove_11 X hI Y hR N k a1 hk  k81_4 hk81_4 N _ _ hf
  · have hf := kT c3 hf
    exact j_retV hR dX7_remove_8 hf
theorem c_X7_remove {l : Launch} {D : va_G} {cI cS : ClassId} {ad : Nat → Nat} (hI : kInj 132 ad) (N : Nat) (C : kS) (k : Nat) (hk : kd k = 7) (a1 : Int32) {Cr : kS} (hf : f_X7_remove N C k a1 = some Cr) : mV l yX7_remove wsX7_remove rm_X7_remove D cI cS (WC cI cS ad) (kAd 132 ad) C [.ref (ad k), .int a1] Cr :=
  mV.of (by decide) rfl rfl (Nat.le_of_ble_eq_true rfl) (WC_D hI) (fun g X Y hR => t_X7_remove X hI Y hR N C k a1 hk hf)
abbrev rm_X8_workOut : Room := { frames := 4, cells := 0, slots := 0, locals := 93 }
theorem lk_X8_workOut_0 : Cond.fieldLink RX8 33 "BlackBars" "forms" "LBlackBars$Forms;" ∈ wsX8_workOut := List.mem_of_getElem? (i := 1) rfl
theorem iw_X8_workOut_X8 : ∀ w ∈ wsX80, w ∈ wsX8_workOut := fun _ h => List.mem_cons_of_mem _ (List.mem_append_left _ (List.mem_append_left _ (List.mem_append_left _ (List.mem_append_left _ (List.mem_append_left _ (List.mem_append_left _ (List.mem_append_right _ h)))))))
theorem lk_X8_workOut_1 : Cond.fieldLink RX8 19 "BlackBars" "state" "LBlackBars$State;" ∈ wsX8_workOut := List.mem_of_getElem? (i := 2) rfl
theorem lk_X8_workOut_2 : Cond.fieldLink RX8 42 "BlackBars" "bars" "LBlackBars$Bars;" ∈ wsX8_workOut := List.mem_of_getElem? (i := 3) rfl
theorem iw_X8_workOut_X5 : ∀ w ∈ wsX50, w ∈ wsX8_workOut := fun _ h => List.mem_cons_of_mem _ (List.mem_append_left _ (List.mem_append_left _ (List.mem_append_left _ (List.mem_append_left _ (List.mem_append_left _ (List.mem_append_right _ h))))))
theorem lk_X8_workOut_3 : Cond.fieldLink RX8 54 "BlackBars" "sheet" "LBlackBars$Sheet;" ∈ wsX8_workOut := List.mem_of_getElem? (i := 4) rfl
def f_X8_workOut (N : Nat) (C : kS) : Option (kS) := (f_X1_measure N C).bind (fun C2 => (f_X3_at N C2 22 0).bind (fun r4 => (f_X3_at N C2 22 1).bind (fun r6 => (f_X3_at N C2 22 2).bind (fun r8 => (f_X0_draw N C2 113 r4 r6 r8).bind (fun C10 => (f_X4_hideWords N C10).bind (fun C12 => (f_X4_flow N C12 113).bind (fun C14 => some C14)))))))
theorem hd_X8_workOut : kHd yX8_workOut 0 := by decide +kernel
set_option maxHeartbeats 4000000 in
set_option maxRecDepth 100000 in
theorem t_X8_workOut {g : kG} {cI cS : ClassId} {ad : Nat → Nat} (X : Kx g cI cS cX8_workOut RX8 wsX8_workOut 1 rm_X8_workOut) {Cr : kS} (hI : kInj 132 ad) (Y : Kw g (WC cI cS ad) (kAd 132 ad)) (hR : kRV g (WC cI cS ad) 1 cX8_workOut Cr) (N : Nat) (C : kS)   (hf : f_X8_workOut N C = some Cr) : J g (WC cI cS ad) 1 C 0 [some (.ref (ad 0))] [] := by
  unfold f_X8_workOut at hf
  refine j_aload_n (pc := 0) X dX8_workOut_0 rfl ?_
  refine j_get (pc := 1) X iw_X8_workOut_X8 (wc8 kd_0) rfl 3 (Nat.le_of_ble_eq_true rfl) lk_X8_workOut_0 (v := .ref (ad 106)) rfl dX8_workOut_1 ?_
  refine j_aload_n (pc := 4) X dX8_workOut_4 rfl ?_
  refine j_get (pc := 5) X iw_X8_workOut_X8 (wc8 kd_0) rfl 1 (Nat.le_of_ble_eq_true rfl) lk_X8_workOut_1 (v := .ref (ad 4)) rfl dX8_workOut_5 ?_
  obtain ⟨C2, h1, hf⟩ := kB hf
  refine j_callV (pc := 8) X Y (c_X1_measure hI N C  h1) gX8_workOut_X1_measure rfl ⟨rfl, rfl⟩ rfl hd_X1_measure ⟨(Nat.le_of_ble_eq_true rfl), (Nat.le_of_ble_eq_true rfl)⟩ (wc1 kd_106) rfl rfl rfl (Nat.le_of_ble_eq_true rfl) rfl dX8_workOut_8 ?_
  refine j_aload_n (pc := 11) X dX8_workOut_11 rfl ?_
  refine j_get (pc := 12) X iw_X8_workOut_X8 (wc8 kd_0) rfl 4 (Nat.le_of_ble_eq_true rfl) lk_X8_workOut_2 (v := .ref (ad 113)) rfl dX8_workOut_12 ?_
  refine j_aload_n (pc := 15) X dX8_workOut_15 rfl ?_
  refine j_get (pc := 16) X iw_X8_workOut_X8 (wc8 kd_0) rfl 1 (Nat.le_of_ble_eq_true rfl) lk_X8_workOut_1 (v := .ref (ad 4)) rfl dX8_workOut_16 ?_
  refine j_getN (pc := 19) X iw_X8_workOut_X5 (wc5 kd_4) rfl 4 (Nat.le_of_ble_eq_true rfl) (List.mem_of_getElem? (i := 2) rfl) (v := .ref (ad 22)) rfl dX8_workOut_19 ?_
  refine j_iconst (pc := 22) X dX8_workOut_22 kc_0 ?_
  obtain ⟨r4, h3, hf⟩ := kB hf
  refine j_callI (pc := 23) X (c_X3_at N C2 22 (kd5_18 kd_4 : kd 22 = 3) 0 h3) gX8_workOut_X3_at rfl ⟨rfl, rfl⟩ rfl hd_X3_at ⟨(Nat.le_of_ble_eq_true rfl), (Nat.le_of_ble_eq_true rfl)⟩ (wc3 (kd5_18 kd_4 : kd 22 = 3)) rfl rfl rfl (Nat.le_of_ble_eq_true rfl) rfl dX8_workOut_23 ?_
  refine j_aload_n (pc := 26) X dX8_workOut_26 rfl ?_
  refine j_get (pc := 27) X iw_X8_workOut_X8 (wc8 kd_0) rfl 1 (Nat.le_of_ble_eq_true rfl) lk_X8_workOut_1 (v := .ref (ad 4)) rfl dX8_workOut_27 ?_
  refine j_getN (pc := 30) X iw_X8_workOut_X5 (wc5 kd_4) rfl 4 (Nat.le_of_ble_eq_true rfl) (List.mem_of_getElem? (i := 2) rfl) (v := .ref (ad 22)) rfl dX8_workOut_30 ?_
  refine j_iconst (pc := 33) X dX8_workOut_33 kc_1 ?_
  obtain ⟨r6, h5, hf⟩ := kB hf
  refine j_callI (pc := 34) X (c_X3_at N C2 22 (kd5_18 kd_4 : kd 22 = 3) 1 h5) gX8_workOut_X3_at rfl ⟨rfl, rfl⟩ rfl hd_X3_at ⟨(Nat.le_of_ble_eq_true rfl), (Nat.le_of_ble_eq_true rfl)⟩ (wc3 (kd5_18 kd_4 : kd 22 = 3)) rfl rfl rfl (Nat.le_of_ble_eq_true rfl) rfl dX8_workOut_34 ?_
  refine j_aload_n (pc := 37) X dX8_workOut_37 rfl ?_
  refine j_get (pc := 38) X iw_X8_workOut_X8 (wc8 kd_0) rfl 1 (Nat.le_of_ble_eq_true rfl) lk_X8_workOut_1 (v := .ref (ad 4)) rfl dX8_workOut_38 ?_
  refine j_getN (pc := 41) X iw_X8_workOut_X5 (wc5 kd_4) rfl 4 (Nat.le_of_ble_eq_true rfl) (List.mem_of_getElem? (i := 2) rfl) (v := .ref (ad 22)) rfl dX8_workOut_41 ?_
  refine j_iconst (pc := 44) X dX8_workOut_44 kc_2 ?_
  obtain ⟨r8, h7, hf⟩ := kB hf
  refine j_callI (pc := 45) X (c_X3_at N C2 22 (kd5_18 kd_4 : kd 22 = 3) 2 h7) gX8_workOut_X3_at rfl ⟨rfl, rfl⟩ rfl hd_X3_at ⟨(Nat.le_of_ble_eq_true rfl), (Nat.le_of_ble_eq_true rfl)⟩ (wc3 (kd5_18 kd_4 : kd 22 = 3)) rfl rfl rfl (Nat.le_of_ble_eq_true rfl) rfl dX8_workOut_45 ?_
  obtain ⟨C10, h9, hf⟩ := kB hf
  refine j_callV (pc := 48) X Y (c_X0_draw hI N C2 113 kd_113 r4 r6 r8 h9) gX8_workOut_X0_draw rfl ⟨rfl, rfl⟩ rfl hd_X0_draw ⟨(Nat.le_of_ble_eq_true rfl), (Nat.le_of_ble_eq_true rfl)⟩ (wc0 kd_113) rfl rfl rfl (Nat.le_of_ble_eq_true rfl) rfl dX8_workOut_48 ?_
  refine j_aload_n (pc := 51) X dX8_workOut_51 rfl ?_
  refine j_get (pc := 52) X iw_X8_workOut_X8 (wc8 kd_0) rfl 6 (Nat.le_of_ble_eq_true rfl) lk_X8_workOut_3 (v := .ref (ad 119)) rfl dX8_workOut_52 ?_
  obtain ⟨C12, h11, hf⟩ := kB hf
  refine j_callV (pc := 55) X Y (c_X4_hideWords hI N C10  h11) gX8_workOut_X4_hideWords rfl ⟨rfl, rfl⟩ rfl hd_X4_hideWords ⟨(Nat.le_of_ble_eq_true rfl), (Nat.le_of_ble_eq_true rfl)⟩ (wc4 kd_119) rfl rfl rfl (Nat.le_of_ble_eq_true rfl) rfl dX8_workOut_55 ?_
  refine j_aload_n (pc := 58) X dX8_workOut_58 rfl ?_
  refine j_get (pc := 59) X iw_X8_workOut_X8 (wc8 kd_0) rfl 6 (Nat.le_of_ble_eq_true rfl) lk_X8_workOut_3 (v := .ref (ad 119)) rfl dX8_workOut_59 ?_
  refine j_aload_n (pc := 62) X dX8_workOut_62 rfl ?_
  refine j_get (pc := 63) X iw_X8_workOut_X8 (wc8 kd_0) rfl 4 (Nat.le_of_ble_eq_true rfl) lk_X8_workOut_2 (v := .ref (ad 113)) rfl dX8_workOut_63 ?_
  obtain ⟨C14, h13, hf⟩ := kB hf
  refine j_callV (pc := 66) X Y (c_X4_flow hI N C12 113 kd_113 h13) gX8_workOut_X4_flow rfl ⟨rfl, rfl⟩ rfl hd_X4_flow ⟨(Nat.le_of_ble_eq_true rfl), (Nat.le_of_ble_eq_true rfl)⟩ (wc4 kd_119) rfl rfl rfl (Nat.le_of_ble_eq_true rfl) rfl dX8_workOut_66 ?_
  exact j_retV hR dX8_workOut_69 hf
theorem c_X8_workOut {l : Launch} {D : va_G} {cI cS : ClassId} {ad : Nat → Nat} (hI : kInj 132 ad) (N : Nat) (C : kS)  {Cr : kS} (hf : f_X8_workOut N C = some Cr) : mV l yX8_workOut wsX8_workOut rm_X8_workOut D cI cS (WC cI cS ad) (kAd 132 ad) C [.ref (ad 0)] Cr :=
  mV.of (by decide) rfl rfl (Nat.le_of_ble_eq_true rfl) (WC_D hI) (fun g X Y hR => t_X8_workOut X hI Y hR N C   hf)
abbrev rm_X8_addTextTo : Room := { frames := 5, cells := 0, slots := 0, locals := 125 }
theorem lk_X8_addTextTo_0 : Cond.fieldLink RX8 12 "BlackBars" "text" "LBlackBars$Text;" ∈ wsX8_addTextTo := List.mem_of_getElem? (i := 1) rfl
theorem iw_X8_addTextTo_X8 : ∀ w ∈ wsX80, w ∈ wsX8_addTextTo := fun _ h => List.mem_cons_of_mem _ (List.mem_append_left _ (List.mem_append_left _ (List.mem_append_left _ (List.mem_append_left _ (List.mem_append_left _ (List.mem_append_left _ (List.mem_append_left _ (List.mem_append_left _ (List.mem_append_right _ h)))))))))
theorem lk_X8_addTextTo_1 : Cond.fieldLink RX8 26 "BlackBars" "history" "LBlackBars$History;" ∈ wsX8_addTextTo := List.mem_of_getElem? (i := 2) rfl
theorem lk_X8_addTextTo_2 : Cond.fieldLink RX8 19 "BlackBars" "state" "LBlackBars$State;" ∈ wsX8_addTextTo := List.mem_of_getElem? (i := 3) rfl
def f_X8_addTextTo (N : Nat) (C : kS) (k1 : Nat) : Option (Int32 × kS) := (f_X7_greatestLength N C k1).bind (fun r2 => (f_X6_isOneWord N C r2).bind (fun r4 => if r4 = 0 then some ((-12), C) else (f_X7_hasWord N C k1).bind (fun r7 => if r7 = 0 then (f_X7_isFull N C k1).bind (fun r10 => if r10 = 0 then (f_X2_keep N C).bind (fun C13 => (f_X7_addWordsOf N C13 k1).bind (fun C15 => (f_X8_workOut N C15).bind (fun C17 => (f_X7_size N C17 k1).bind (fun r19 => some (r19 - 1, C17))))) else some ((-13), C)) else some ((-12), C))))
theorem hd_X8_addTextTo : kHd yX8_addTextTo 1 := by decide +kernel
set_option maxHeartbeats 4000000 in
set_option maxRecDepth 100000 in
theorem t_X8_addTextTo {g : kG} {cI cS : ClassId} {ad : Nat → Nat} (X : Kx g cI cS cX8_addTextTo RX8 wsX8_addTextTo 2 rm_X8_addTextTo) {r : Int32} {Cr : kS} (hI : kInj 132 ad) (Y : Kw g (WC cI cS ad) (kAd 132 ad)) (hR : kRI g (WC cI cS ad) 2 cX8_addTextTo .int Cr r) (N : Nat) (C : kS) (k1 : Nat) (hk1 : kd k1 = 7) (hf : f_X8_addTextTo N C k1 = some (r, Cr)) : J g (WC cI cS ad) 2 C 0 [some (.ref (ad 0)), some (.ref (ad k1))] [] := by
  unfold f_X8_addTextTo at hf
  refine j_aload_n (pc := 0) X dX8_addTextTo_0 rfl ?_
  refine j_get (pc := 1) X iw_X8_addTextTo_X8 (wc8 kd_0) rfl 0 (Nat.le_of_ble_eq_true rfl) lk_X8_addTextTo_0 (v := .ref (ad 1)) rfl dX8_addTextTo_1 ?_
  refine j_aload_n (pc := 4) X dX8_addTextTo_4 rfl ?_
  obtain ⟨r2, h1, hf⟩ := kB hf
  refine j_callI (pc := 5) X (c_X7_greatestLength N C k1 hk1 h1) gX8_addTextTo_X7_greatestLength rfl ⟨rfl, rfl⟩ rfl hd_X7_greatestLength ⟨(Nat.le_of_ble_eq_true rfl), (Nat.le_of_ble_eq_true rfl)⟩ (wc7 hk1) rfl rfl rfl (Nat.le_of_ble_eq_true rfl) rfl dX8_addTextTo_5 ?_
  obtain ⟨r4, h3, hf⟩ := kB hf
  refine j_callI (pc := 8) X (c_X6_isOneWord N C r2 h3) gX8_addTextTo_X6_isOneWord rfl ⟨rfl, rfl⟩ rfl hd_X6_isOneWord ⟨(Nat.le_of_ble_eq_true rfl), (Nat.le_of_ble_eq_true rfl)⟩ (wc6 kd_1) rfl rfl rfl (Nat.le_of_ble_eq_true rfl) rfl dX8_addTextTo_8 ?_
  refine j_if_eq (tgt := 25) (pc := 11) X dX8_addTextTo_11 rfl (fun c5 => ?_) (fun c5 => ?_)
  · have hf := kT c5 hf
    refine j_bipush (pc := 25) X dX8_addTextTo_25 kb_m12 ?_
    exact j_retW hR dX8_addTextTo_27 hf
  · have hf := kF c5 hf
    refine j_aload_n (pc := 14) X dX8_addTextTo_14 rfl ?_
    refine j_aload_n (pc := 15) X dX8_addTextTo_15 rfl ?_
    refine j_get (pc := 16) X iw_X8_addTextTo_X8 (wc8 kd_0) rfl 0 (Nat.le_of_ble_eq_true rfl) lk_X8_addTextTo_0 (v := .ref (ad 1)) rfl dX8_addTextTo_16 ?_
    obtain ⟨r7, h6, hf⟩ := kB hf
    refine j_callI (pc := 19) X (c_X7_hasWord N C k1 hk1 h6) gX8_addTextTo_X7_hasWord rfl ⟨rfl, rfl⟩ rfl hd_X7_hasWord ⟨(Nat.le_of_ble_eq_true rfl), (Nat.le_of_ble_eq_true rfl)⟩ (wc7 hk1) rfl rfl rfl (Nat.le_of_ble_eq_true rfl) rfl dX8_addTextTo_19 ?_
    refine j_if_eq (tgt := 28) (pc := 22) X dX8_addTextTo_22 rfl (fun c8 => ?_) (fun c8 => ?_)
    · have hf := kT c8 hf
      refine j_aload_n (pc := 28) X dX8_addTextTo_28 rfl ?_
      obtain ⟨r10, h9, hf⟩ := kB hf
      refine j_callI (pc := 29) X (c_X7_isFull N C k1 hk1 h9) gX8_addTextTo_X7_isFull rfl ⟨rfl, rfl⟩ rfl hd_X7_isFull ⟨(Nat.le_of_ble_eq_true rfl), (Nat.le_of_ble_eq_true rfl)⟩ (wc7 hk1) rfl rfl rfl (Nat.le_of_ble_eq_true rfl) rfl dX8_addTextTo_29 ?_
      refine j_if_eq (tgt := 38) (pc := 32) X dX8_addTextTo_32 rfl (fun c11 => ?_) (fun c11 => ?_)
      · have hf := kT c11 hf
        refine j_aload_n (pc := 38) X dX8_addTextTo_38 rfl ?_
        refine j_get (pc := 39) X iw_X8_addTextTo_X8 (wc8 kd_0) rfl 2 (Nat.le_of_ble_eq_true rfl) lk_X8_addTextTo_1 (v := .ref (ad 24)) rfl dX8_addTextTo_39 ?_
        refine j_aload_n (pc := 42) X dX8_addTextTo_42 rfl ?_
        refine j_get (pc := 43) X iw_X8_addTextTo_X8 (wc8 kd_0) rfl 1 (Nat.le_of_ble_eq_true rfl) lk_X8_addTextTo_2 (v := .ref (ad 4)) rfl dX8_addTextTo_43 ?_
        obtain ⟨C13, h12, hf⟩ := kB hf
        refine j_callV (pc := 46) X Y (c_X2_keep hI N C  h12) gX8_addTextTo_X2_keep rfl ⟨rfl, rfl⟩ rfl hd_X2_keep ⟨(Nat.le_of_ble_eq_true rfl), (Nat.le_of_ble_eq_true rfl)⟩ (wc2 kd_24) rfl rfl rfl (Nat.le_of_ble_eq_true rfl) rfl dX8_addTextTo_46 ?_
        refine j_aload_n (pc := 49) X dX8_addTextTo_49 rfl ?_
        refine j_aload_n (pc := 50) X dX8_addTextTo_50 rfl ?_
        refine j_get (pc := 51) X iw_X8_addTextTo_X8 (wc8 kd_0) rfl 0 (Nat.le_of_ble_eq_true rfl) lk_X8_addTextTo_0 (v := .ref (ad 1)) rfl dX8_addTextTo_51 ?_
        obtain ⟨C15, h14, hf⟩ := kB hf
        refine j_callV (pc := 54) X Y (c_X7_addWordsOf hI N C13 k1 hk1 h14) gX8_addTextTo_X7_addWordsOf rfl ⟨rfl, rfl⟩ rfl hd_X7_addWordsOf ⟨(Nat.le_of_ble_eq_true rfl), (Nat.le_of_ble_eq_true rfl)⟩ (wc7 hk1) rfl rfl rfl (Nat.le_of_ble_eq_true rfl) rfl dX8_addTextTo_54 ?_
        refine j_aload_n (pc := 57) X dX8_addTextTo_57 rfl ?_
        obtain ⟨C17, h16, hf⟩ := kB hf
        refine j_callV (pc := 58) X Y (c_X8_workOut hI N C15  h16) gX8_addTextTo_X8_workOut rfl ⟨rfl, rfl⟩ rfl hd_X8_workOut ⟨(Nat.le_of_ble_eq_true rfl), (Nat.le_of_ble_eq_true rfl)⟩ (wc8 kd_0) rfl rfl rfl (Nat.le_of_ble_eq_true rfl) rfl dX8_addTextTo_58 ?_
        refine j_aload_n (pc := 61) X dX8_addTextTo_61 rfl ?_
        obtain ⟨r19, h18, hf⟩ := kB hf
        refine j_callI (pc := 62) X (c_X7_size N C17 k1 hk1 h18) gX8_addTextTo_X7_size rfl ⟨rfl, rfl⟩ rfl hd_X7_size ⟨(Nat.le_of_ble_eq_true rfl), (Nat.le_of_ble_eq_true rfl)⟩ (wc7 hk1) rfl rfl rfl (Nat.le_of_ble_eq_true rfl) rfl dX8_addTextTo_62 ?_
        refine j_iconst (pc := 65) X dX8_addTextTo_65 kc_1 ?_
        refine j_isub (pc := 66) X dX8_addTextTo_66 ?_
        exact j_retW hR dX8_addTextTo_67 hf
      · have hf := kF c11 hf
        refine j_bipush (pc := 35) X dX8_addTextTo_35 kb_m13 ?_
        exact j_retW hR dX8_addTextTo_37 hf
    · have hf := kF c8 hf
      refine j_bipush (pc := 25) X dX8_addTextTo_25 kb_m12 ?_
      exact j_retW hR dX8_addTextTo_27 hf
theorem c_X8_addTextTo {l : Launch} {D : va_G} {cI cS : ClassId} {ad : Nat → Nat} (hI : kInj 132 ad) (N : Nat) (C : kS) (k1 : Nat) (hk1 : kd k1 = 7) {r : Int32} {Cr : kS} (hf : f_X8_addTextTo N C k1 = some (r, Cr)) : mW l yX8_addTextTo wsX8_addTextTo rm_X8_addTextTo D cI cS (WC cI cS ad) (kAd 132 ad) C [.ref (ad 0), .ref (ad k1)] r Cr :=
  mW.of (by decide) rfl rfl (Nat.le_of_ble_eq_true rfl) (WC_D hI) (fun g X Y hR => t_X8_addTextTo X hI Y hR N C k1 hk1 hf)
abbrev rm_X8_clearText : Room := { frames := 1, cells := 0, slots := 0, locals := 20 }
theorem lk_X8_clearText_0 : Cond.fieldLink RX8 12 "BlackBars" "text" "LBlackBars$Text;" ∈ wsX8_clearText := List.mem_of_getElem? (i := 1) rfl
theorem iw_X8_clearText_X8 : ∀ w ∈ wsX80, w ∈ wsX8_clearText := fun _ h => List.mem_cons_of_mem _ (List.mem_append_left _ (List.mem_append_right _ h))
def f_X8_clearText (N : Nat) (C : kS) : Option (Int32 × kS) := (f_X6_size N C).bind (fun r2 => (f_X6_empty N C).bind (fun C4 => some (r2, C4)))
theorem hd_X8_clearText : kHd yX8_clearText 0 := by decide +kernel
set_option maxHeartbeats 4000000 in
set_option maxRecDepth 100000 in
theorem t_X8_clearText {g : kG} {cI cS : ClassId} {ad : Nat → Nat} (X : Kx g cI cS cX8_clearText RX8 wsX8_clearText 2 rm_X8_clearText) {r : Int32} {Cr : kS} (hI : kInj 132 ad) (Y : Kw g (WC cI cS ad) (kAd 132 ad)) (hR : kRI g (WC cI cS ad) 2 cX8_clearText .int Cr r) (N : Nat) (C : kS)   (hf : f_X8_clearText N C = some (r, Cr)) : J g (WC cI cS ad) 2 C 0 [some (.ref (ad 0)), none] [] := by
  unfold f_X8_clearText at hf
  refine j_aload_n (pc := 0) X dX8_clearText_0 rfl ?_
  refine j_get (pc := 1) X iw_X8_clearText_X8 (wc8 kd_0) rfl 0 (Nat.le_of_ble_eq_true rfl) lk_X8_clearText_0 (v := .ref (ad 1)) rfl dX8_clearText_1 ?_
  obtain ⟨r2, h1, hf⟩ := kB hf
  refine j_callI (pc := 4) X (c_X6_size N C  h1) gX8_clearText_X6_size rfl ⟨rfl, rfl⟩ rfl hd_X6_size ⟨(Nat.le_of_ble_eq_true rfl), (Nat.le_of_ble_eq_true rfl)⟩ (wc6 kd_1) rfl rfl rfl (Nat.le_of_ble_eq_true rfl) rfl dX8_clearText_4 ?_
  refine j_istore_n (pc := 7) X dX8_clearText_7 (Nat.le_of_ble_eq_true rfl) (lv' := [some (.ref (ad 0)), some (.int r2)]) rfl ?_
  refine j_aload_n (pc := 8) X dX8_clearText_8 rfl ?_
  refine j_get (pc := 9) X iw_X8_clearText_X8 (wc8 kd_0) rfl 0 (Nat.le_of_ble_eq_true rfl) lk_X8_clearText_0 (v := .ref (ad 1)) rfl dX8_clearText_9 ?_
  obtain ⟨C4, h3, hf⟩ := kB hf
  refine j_callV (pc := 12) X Y (c_X6_empty hI N C  h3) gX8_clearText_X6_empty rfl ⟨rfl, rfl⟩ rfl hd_X6_empty ⟨(Nat.le_of_ble_eq_true rfl), (Nat.le_of_ble_eq_true rfl)⟩ (wc6 kd_1) rfl rfl rfl (Nat.le_of_ble_eq_true rfl) rfl dX8_clearText_12 ?_
  refine j_iload_n (pc := 15) X dX8_clearText_15 rfl ?_
  exact j_retW hR dX8_clearText_16 hf
theorem c_X8_clearText {l : Launch} {D : va_G} {cI cS : ClassId} {ad : Nat → Nat} (hI : kInj 132 ad) (N : Nat) (C : kS)  {r : Int32} {Cr : kS} (hf : f_X8_clearText N C = some (r, Cr)) : mW l yX8_clearText wsX8_clearText rm_X8_clearText D cI cS (WC cI cS ad) (kAd 132 ad) C [.ref (ad 0)] r Cr :=
  mW.of (by decide) rfl rfl (Nat.le_of_ble_eq_true rfl) (WC_D hI) (fun g X Y hR => t_X8_clearText X hI Y hR N C   hf)
