abbrev rm_X2_latest : Room := { frames := 0, cells := 0, slots := 0, locals := 0 }
theorem hd_X2_latest : kHd yX2_latest 0 := by decide +kernel
theorem lk_X2_latest_0 : Cond.fieldLink RX2 18 "BlackBars$History" "size" "I" ∈ wsX2_latest := List.mem_of_getElem? (i := 1) rfl
theorem lk_X2_latest_1 : Cond.fieldLink RX2 11 "BlackBars$History" "states" "[LBlackBars$State;" ∈ wsX2_latest := List.mem_of_getElem? (i := 2) rfl
theorem iw_X2_latest_X2 : ∀ w ∈ wsX20, w ∈ wsX2_latest := fun _ h => List.mem_cons_of_mem _ (List.mem_append_right _ h)
set_option maxRecDepth 100000 in
theorem t_X2_latest {g : kG} {cI cS : ClassId} {ad : Nat → Nat} {C : kS} (X : Kx g cI cS cX2_latest RX2 wsX2_latest 1 rm_X2_latest) {o : Option Int32} (hR : kRQ g cI cS ad 1 cX2_latest C o) (N : Nat) (hf : f_X2_latest N C = some o) : J g (WC cI cS ad) 1 C 0 [some (.ref (ad 24))] [] := by
  unfold f_X2_latest at hf
  refine j_aload_n (pc := 0) X dX2_latest_0 rfl ?_
  refine j_get (pc := 1) X iw_X2_latest_X2 (wc2 kd_24) rfl 1 (Nat.le_of_ble_eq_true rfl) lk_X2_latest_0 (v := .int (C 24 1)) rfl dX2_latest_1 ?_
  have hnull : o = none → J g (WC cI cS ad) 1 C 33 [some (.ref (ad 24))] [] := by
    intro ho
    refine j_aconst_null (pc := 33) X dX2_latest_33 ?_
    exact hR _ _ _ dX2_latest_34 (by rw [ho]; rfl)
  refine j_if_le (tgt := 33) (pc := 4) X dX2_latest_4 rfl (fun c => ?_) (fun c => ?_)
  · exact hnull (Option.some.inj (kT c hf)).symm
  · have hf := kF c hf
    refine j_aload_n (pc := 7) X dX2_latest_7 rfl ?_
    refine j_get (pc := 8) X iw_X2_latest_X2 (wc2 kd_24) rfl 1 (Nat.le_of_ble_eq_true rfl) lk_X2_latest_0 (v := .int (C 24 1)) rfl dX2_latest_8 ?_
    refine j_aload_n (pc := 11) X dX2_latest_11 rfl ?_
    refine j_get (pc := 12) X iw_X2_latest_X2 (wc2 kd_24) rfl 0 (Nat.le_of_ble_eq_true rfl) lk_X2_latest_1 (v := .ref (ad 25)) rfl dX2_latest_12 ?_
    refine j_alen (pc := 15) X (wcR kd_25) 1 rfl (v := nI (ln 25)) rfl dX2_latest_15 ?_
    refine j_icmp_gt (tgt := 33) (pc := 16) X dX2_latest_16 rfl (fun c2 => ?_) (fun c2 => ?_)
    · exact hnull (Option.some.inj (kT c2 hf)).symm
    · have hf := kF c2 hf
      obtain ⟨b, hf⟩ := gIn_s hf
      refine j_aload_n (pc := 19) X dX2_latest_19 rfl ?_
      refine j_get (pc := 20) X iw_X2_latest_X2 (wc2 kd_24) rfl 0 (Nat.le_of_ble_eq_true rfl) lk_X2_latest_1 (v := .ref (ad 25)) rfl dX2_latest_20 ?_
      refine j_aload_n (pc := 23) X dX2_latest_23 rfl ?_
      refine j_get (pc := 24) X iw_X2_latest_X2 (wc2 kd_24) rfl 1 (Nat.le_of_ble_eq_true rfl) lk_X2_latest_0 (v := .int (C 24 1)) rfl dX2_latest_24 ?_
      refine j_iconst (pc := 27) X dX2_latest_27 (show Int32.ofInt 1 = 1 by decide) ?_
      refine j_isub (pc := 28) X dX2_latest_28 ?_
      refine j_aald (pc := 29) X (wcR kd_25) b (v := ad (C 25 (C 24 1 - 1).toNatClampNeg).toNatClampNeg) rfl dX2_latest_29 ?_
      refine j_goto (tgt := 34) (pc := 30) X dX2_latest_30 rfl ?_
      exact hR _ _ _ dX2_latest_34 (by rw [← Option.some.inj hf]; rfl)
theorem c_X2_latest {l : Launch} {D : va_G} {cI cS : ClassId} {ad : Nat → Nat} (N : Nat) (C : kS) {o : Option Int32} (hf : f_X2_latest N C = some o) : mQ l yX2_latest wsX2_latest rm_X2_latest D cI cS ad C [.ref (ad 24)] o :=
  mQ.of (by decide) rfl rfl (Nat.le_of_ble_eq_true rfl) (fun g X hR => t_X2_latest X hR N hf)
