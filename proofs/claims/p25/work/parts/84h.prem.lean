/-! ===== what the Statement gives of the start ===== -/
section PR
variable {args : Array Value} {s : State}
theorem pr_eq {t : Term} {z : Int32} (h : (Cond.eq t (.int z)).before args s = true) : t.eval args s none [] s = some (.int z) := by
  cases hv : t.eval args s none [] s with
  | none => simp [Cond.before, Cond.holds, Cond.value, hv] at h
  | some w =>
    have hz : (Term.int z).eval args s none [] s = some (.int z) := rfl
    simp only [Cond.before, Cond.holds, Cond.value, hv, hz] at h
    cases w <;> simp_all
theorem pr_len {tm : Term} {N : Nat} (hN : N < 2147483648) (hv : (Term.length tm).eval args s none [] s = some (.int (Int32.ofNat N))) : ∃ t cell, tm.eval args s none [] s = some (.ref t) ∧ s.arrayAt? t = some cell ∧ cell.slots.size = N := by
  obtain ⟨t, cell, ht, hat, hs⟩ := Term.length_spec hv
  have hsz : cell.slots.size < 2 ^ 31 := by
    simp only [Term.eval, ht, hat, Option.bind_eq_bind, Option.bind_some] at hv
    by_cases hlt : cell.slots.size < 2147483648
    · exact hlt
    · simp [hlt] at hv
  have h1 : Int32.ofNat N = Int32.ofNat cell.slots.size := Value.int.inj hs
  have h2 := congrArg Int32.toNatClampNeg h1
  rw [Int32.toNatClampNeg_ofNat_of_lt (show N < 2 ^ 31 from hN), Int32.toNatClampNeg_ofNat_of_lt hsz] at h2
  exact ⟨t, cell, ht, hat, h2.symm⟩
theorem pr_cI (h : (Cond.arrayClass .int).before args s = true) : ∃ cI, ArrOfT s cI .int ∧ va_RA s cI .int := by
  obtain ⟨cA, kA, comp, h1, h2, h3⟩ := Cond.arrayClass_spec h
  exact ⟨cA, fun n z => ⟨fun k h => (by cases h), kA, h2, comp, h3⟩, h1⟩
theorem pr_cJ (h : (Cond.arrayClass .long).before args s = true) : ∃ cJ, ArrOfT s cJ .long ∧ va_RA s cJ .long := by
  obtain ⟨cA, kA, comp, h1, h2, h3⟩ := Cond.arrayClass_spec h
  exact ⟨cA, fun n z => ⟨fun k h => (by cases h), kA, h2, comp, h3⟩, h1⟩
theorem pr_cS (h : (Cond.arrayOver (.object RX5)).before args s = true) : ∃ cS, ArrOfT s cS (.object RX5) ∧ va_RA s cS (.object RX5) := by
  obtain ⟨comp, cA, kA, h1, h2, h3, h4, h5⟩ := Cond.arrayOver_spec h
  exact ⟨cA, fun n z => ⟨fun k h => (by cases h), kA, h3, comp, h4⟩, kA, comp, h3, h4, h1, h5⟩
theorem pr_T {n : String} {N : Nat} {f : Nat → Int32} {A : Nat → Prop} {cI : ClassId} (hl : (Cond.laysStatic RX8 n "[I").before args s = true) (hini : (Cond.initialized RX8).before args s = true) (hN : N < 2147483648) (hlen : (Cond.eq (.length (.static RX8 n "[I")) (.int (Int32.ofNat N))).before args s = true) (hex : (Cond.exactly (.static RX8 n "[I") "[I").before args s = true) (hel : ∀ j, j < N → (Cond.eq (.elem (.static RX8 n "[I") (.int (Int32.ofNat j))) (.int (f j))).before args s = true) (hI : va_RA s cI .int) (hA : ∀ a : Nat, a < s.heap.size → ¬ A a) : ∃ t, va_Z RX8 n "[I" (.ref t) A s s.heap ∧ sT cI t N f A s := by
  obtain ⟨t, cell, ht, hat, hs⟩ := pr_len hN (pr_eq hlen)
  obtain ⟨hcell, hkn, hst, -⟩ := State.arrayAt?_spec hat
  obtain ⟨a, c, cell2, k, e1, e2, e3, e4, e5, e6, -⟩ := Cond.exactly_spec hex
  cases ht.symm.trans e1
  cases hcell.symm.trans e3
  refine ⟨t, va_Zof hl hini ht hA, cell, hcell, ?_, hs, fun j hj => ?_, hkn, fun k e => (by rw [e] at hst; cases hst), hA t (Array.getElem?_eq_some_iff.mp hcell).1⟩
  · rw [e6]
    exact Option.some.inj (e2.symm.trans (va_nm_int hI))
  · obtain ⟨a2, i, cell3, h1, h2, h3, h4, h5⟩ := Term.elem_spec (pr_eq (hel j hj))
    cases ht.symm.trans h1
    cases hat.symm.trans h3
    have hi : i = Int32.ofNat j := by
      have e : (Term.int (Int32.ofNat j)).eval args s none [] s = some (.int (Int32.ofNat j)) := rfl
      cases h2.symm.trans e
      rfl
    have hc : i.toNatClampNeg = j := by rw [hi]; exact Int32.toNatClampNeg_ofNat_of_lt (Nat.lt_trans hj hN)
    rw [hc] at h5
    exact h5
end PR
theorem tb_in {w : Cond} {i : Nat} (h : tables_1[i]? = some w) : w ∈ lw_tbl := List.mem_append_right _ (List.mem_of_getElem? h)
theorem pr_NF : ∀ q ∈ kNF, Cond.fieldLinkNest q.1 q.2.1 q.2.2.1 q.2.2.2.1 q.2.2.2.2 RX8 ∈ lw_tbl :=
  List.forall_mem_cons.mpr ⟨tb_in (i := 100) (by decide +kernel), List.forall_mem_cons.mpr ⟨tb_in (i := 104) (by decide +kernel), List.forall_mem_cons.mpr ⟨tb_in (i := 107) (by decide +kernel), List.forall_mem_cons.mpr ⟨tb_in (i := 95) (by decide +kernel), List.forall_mem_cons.mpr ⟨tb_in (i := 97) (by decide +kernel), List.forall_mem_cons.mpr ⟨tb_in (i := 101) (by decide +kernel), List.forall_mem_cons.mpr ⟨tb_in (i := 98) (by decide +kernel), List.forall_mem_cons.mpr ⟨tb_in (i := 94) (by decide +kernel), List.forall_mem_cons.mpr ⟨tb_in (i := 103) (by decide +kernel), List.forall_mem_cons.mpr ⟨tb_in (i := 106) (by decide +kernel), List.forall_mem_cons.mpr ⟨tb_in (i := 79) (by decide +kernel), List.forall_mem_cons.mpr ⟨tb_in (i := 91) (by decide +kernel), fun _ h => absurd h List.not_mem_nil⟩⟩⟩⟩⟩⟩⟩⟩⟩⟩⟩⟩
theorem pr_M6 : Cond.methodLinkNest RX6 32 yX8_isLetter RX8 ∈ lw_tbl := tb_in (i := 433) (by decide +kernel)
theorem pr_M7 : Cond.methodLinkNest RX7 52 yX8_isLetter RX8 ∈ lw_tbl := tb_in (i := 485) (by decide +kernel)
theorem pr_ai : Cond.arrayClass .int ∈ lw_tbl := tb_in (i := 40) (by decide +kernel)
theorem pr_al : Cond.arrayClass .long ∈ lw_tbl := tb_in (i := 685) (by decide +kernel)
theorem pr_ao : Cond.arrayOver (.object RX5) ∈ lw_tbl := tb_in (i := 126) (by decide +kernel)
theorem pr_ca : Cond.castable "[I" "java/lang/Cloneable" ∈ lw_tbl := tb_in (i := 89) (by decide +kernel)
theorem pr_s1 : Cond.laysStatic RX8 "FIRST_WIDTHS" "[I" ∈ lw_tbl := tb_in (i := 80) (by decide +kernel)
theorem pr_s2 : Cond.laysStatic RX8 "FIRST_VALUES" "[I" ∈ lw_tbl := tb_in (i := 92) (by decide +kernel)
theorem pr_s3 : Cond.laysStatic RX8 "LEAST_VALUES" "[I" ∈ lw_tbl := tb_in (i := 628) (by decide +kernel)
theorem pr_s4 : Cond.laysStatic RX8 "GREATEST_VALUES" "[I" ∈ lw_tbl := tb_in (i := 630) (by decide +kernel)
theorem pr_x1 : Cond.classLink RL 34 RX8 ∈ wsL_law := List.mem_of_getElem? (i := 0) rfl
theorem pr_x2 : Cond.instantiable RX8 7 ∈ wsL_law := List.mem_of_getElem? (i := 1) rfl
theorem pr_x3 : Cond.initialized RX8 ∈ wsL_law := List.mem_of_getElem? (i := 2) rfl
/-- the constants of the class, read off -/
theorem pr_w26 : ∀ j, j < 26 → Cond.eq (.elem (.static RX8 "FIRST_WIDTHS" "[I") (.int (Int32.ofNat j))) (.int (FWt j)) ∈ flatC (Jvm.Cond.and given_1 narrow_1) := by decide +kernel
theorem pr_v5 : ∀ j, j < 5 → Cond.eq (.elem (.static RX8 "FIRST_VALUES" "[I") (.int (Int32.ofNat j))) (.int (FVt j)) ∈ flatC (Jvm.Cond.and given_1 narrow_1) := by decide +kernel
theorem pr_l5 : ∀ j, j < 5 → Cond.eq (.elem (.static RX8 "LEAST_VALUES" "[I") (.int (Int32.ofNat j))) (.int (tb_LV j)) ∈ flatC (Jvm.Cond.and given_1 narrow_1) := by decide +kernel
theorem pr_g5 : ∀ j, j < 5 → Cond.eq (.elem (.static RX8 "GREATEST_VALUES" "[I") (.int (Int32.ofNat j))) (.int (tb_GV j)) ∈ flatC (Jvm.Cond.and given_1 narrow_1) := by decide +kernel
section PS
variable {args : Array Value} {s : State}
theorem pr_E (hts : ∀ w ∈ lw_tbl, w.before args s = true) (hgv : (Jvm.Cond.and given_1 narrow_1).before args s = true) {A : Nat → Prop} {cI : ClassId} (hI : va_RA s cI .int) (hA : ∀ a : Nat, a < s.heap.size → ¬ A a) : ∃ tw tv LV GV, eHi cI tw tv A s ∧ kZ A LV GV s := by
  have hs := flat_of_before _ hgv
  have hini := hts _ (wsL_law_in _ pr_x3)
  obtain ⟨tw, z1, t1⟩ := pr_T (n := "FIRST_WIDTHS") (f := FWt) (hts _ pr_s1) hini (N := 26) (by decide) (hs _ (by decide +kernel)) (hs _ (by decide +kernel)) (fun j hj => hs _ (pr_w26 j hj)) hI hA
  obtain ⟨tv, z2, t2⟩ := pr_T (n := "FIRST_VALUES") (f := FVt) (hts _ pr_s2) hini (N := 5) (by decide) (hs _ (by decide +kernel)) (hs _ (by decide +kernel)) (fun j hj => hs _ (pr_v5 j hj)) hI hA
  obtain ⟨LV, e3, t3⟩ := va_Tof (args := args) (tm := .static RX8 "LEAST_VALUES" "[I") (ty := .int) (N := 5) (f := fun j => .int (tb_LV j)) (by decide) (hs _ (by decide +kernel)) (pr_eq (hs _ (by decide +kernel))) (fun j hj => pr_eq (hs _ (pr_l5 j hj))) hA
  obtain ⟨GV, e4, t4⟩ := va_Tof (args := args) (tm := .static RX8 "GREATEST_VALUES" "[I") (ty := .int) (N := 5) (f := fun j => .int (tb_GV j)) (by decide) (hs _ (by decide +kernel)) (pr_eq (hs _ (by decide +kernel))) (fun j hj => pr_eq (hs _ (pr_g5 j hj))) hA
  exact ⟨tw, tv, LV, GV, ⟨⟨⟨z1, t1⟩, ⟨z2, t2⟩, va_Nw.of rfl (hts _ pr_ca)⟩, va_AO.of (A := args) (hts _ pr_ao)⟩, ⟨va_Zof (hts _ pr_s3) hini e3 hA, t3⟩, va_Zof (hts _ pr_s4) hini e4 hA, t4⟩
theorem iwi_X8_init_X3 : ∀ w ∈ u_ws RX3 TX3 1, w ∈ wsX8_init := by decide +kernel
theorem iwi_X8_init_X7 : ∀ w ∈ u_ws RX7 TX7 5, w ∈ wsX8_init := by decide +kernel
theorem i8_in {w : Cond} (h : w ∈ wsX8_init) : w ∈ lw_tbl := wsL_law_in w (gL_law_X8_init w h).1
theorem pr_K (hts : ∀ w ∈ lw_tbl, w.before args s = true) : ∃ D cI cS, kK D cI cS s := by
  obtain ⟨cI, i1, i2⟩ := pr_cI (hts _ pr_ai)
  obtain ⟨cS, s1, s2⟩ := pr_cS (hts _ pr_ao)
  have q0 := u_known (C := RX0) (T := TX0) (N := 2) (n := 2) hts (fun w h => i8_in (iwi_X8_init_X0 w h)) (hts _ (i8_in (by decide +kernel)))
  have q1 := u_known (C := RX1) (T := TX1) (N := 5) (n := 5) hts (fun w h => i8_in (iwi_X8_init_X1 w h)) (hts _ (i8_in (by decide +kernel)))
  have q2 := u_known (C := RX2) (T := TX2) (N := 2) (n := 2) hts (fun w h => i8_in (iwi_X8_init_X2 w h)) (hts _ (i8_in (by decide +kernel)))
  have q3 := u_known (C := RX3) (T := TX3) (N := 1) (n := 1) hts (fun w h => i8_in (iwi_X8_init_X3 w h)) (hts _ (i8_in (by decide +kernel)))
  have q4 := u_known (C := RX4) (T := TX4) (N := 9) (n := 9) hts (fun w h => i8_in (iwi_X8_init_X4 w h)) (hts _ (i8_in (by decide +kernel)))
  have q5 := u_known (C := RX5) (T := TX5) (N := 5) (n := 5) hts (fun w h => i8_in (iwi_X8_init_X5 w h)) (hts _ (i8_in (by decide +kernel)))
  have q6 := u_known (C := RX6) (T := TX6) (N := 2) (n := 2) hts (fun w h => i8_in (iwi_X8_init_X6 w h)) (hts _ (i8_in (by decide +kernel)))
  have q7 := u_known (C := RX7) (T := TX7) (N := 5) (n := 5) hts (fun w h => i8_in (iwi_X8_init_X7 w h)) (hts _ (i8_in (by decide +kernel)))
  have q8 := u_known (C := RX8) (T := TX8) (N := 7) (n := 7) hts (fun w h => i8_in (iwi_X8_init_X8 w h)) (hts _ (wsL_law_in _ pr_x2))
  have key : ∀ k : Nat, ∃ (c : ClassId) (iS : Nat → Nat), ∀ q : vw_C, vwCl[k]? = some q → u_Kn s q.1 q.2.1 q.2.2 c iS := by
    intro k
    match k with
    | 0 => obtain ⟨c, i, h⟩ := q0; exact ⟨c, i, fun q hq => by cases hq; exact h⟩
    | 1 => obtain ⟨c, i, h⟩ := q1; exact ⟨c, i, fun q hq => by cases hq; exact h⟩
    | 2 => obtain ⟨c, i, h⟩ := q2; exact ⟨c, i, fun q hq => by cases hq; exact h⟩
    | 3 => obtain ⟨c, i, h⟩ := q3; exact ⟨c, i, fun q hq => by cases hq; exact h⟩
    | 4 => obtain ⟨c, i, h⟩ := q4; exact ⟨c, i, fun q hq => by cases hq; exact h⟩
    | 5 => obtain ⟨c, i, h⟩ := q5; exact ⟨c, i, fun q hq => by cases hq; exact h⟩
    | 6 => obtain ⟨c, i, h⟩ := q6; exact ⟨c, i, fun q hq => by cases hq; exact h⟩
    | 7 => obtain ⟨c, i, h⟩ := q7; exact ⟨c, i, fun q hq => by cases hq; exact h⟩
    | 8 => obtain ⟨c, i, h⟩ := q8; exact ⟨c, i, fun q hq => by cases hq; exact h⟩
    | k + 9 => obtain ⟨c, i, h⟩ := q0; exact ⟨c, i, fun q hq => by simp [vwCl] at hq⟩
  refine ⟨(fun k => Classical.choose (key k), fun k => Classical.choose (Classical.choose_spec (key k))), cI, cS, ⟨fun c q hq => Classical.choose_spec (Classical.choose_spec (key c)) q hq, fun k q hk => ?_⟩, fun q hq => va_Nw.of rfl (hts _ (pr_NF q hq)), va_Nw.of rfl (hts _ pr_M6), va_Nw.of rfl (hts _ pr_M7)⟩
  match k, hk with
  | 0, hk => cases hk; exact ⟨i1, i2⟩
  | 1, hk => cases hk; exact ⟨s1, s2⟩
  | k + 2, hk => simp [kTy] at hk
theorem pr_KJ {D : va_G} {cI cS : ClassId} (hts : ∀ w ∈ lw_tbl, w.before args s = true) (hK : kK D cI cS s) : ∃ cJ, kE D cJ s := by
  obtain ⟨cJ, i1, i2⟩ := pr_cJ (hts _ pr_al)
  exact ⟨cJ, hK.1.1, fun k q hk => by
    match k, hk with
    | 0, hk => cases hk; exact ⟨i1, i2⟩
    | k + 1, hk => simp at hk⟩
end PS
