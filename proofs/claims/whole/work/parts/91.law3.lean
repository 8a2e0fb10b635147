/-! ===== the law's loop and its start ===== -/
theorem and31 (v : Int32) : ∃ n : Nat, n < 32 ∧ v &&& 31 = nI n := by
  refine ⟨(v.toBitVec &&& 31#32).toNat, ?_, ?_⟩
  · rw [BitVec.toNat_and]
    exact Nat.lt_of_le_of_lt Nat.and_le_right (by decide)
  · apply Int32.toBitVec_inj.mp
    show v.toBitVec &&& 31#32 = BitVec.ofNat 32 (v.toBitVec &&& 31#32).toNat
    rw [BitVec.ofNat_toNat, BitVec.setWidth_eq]
theorem sub4 {L : Nat} (h : 4 ≤ L) : nI L - nI 4 = nI (L - 4) := by
  have e : nI L = nI (L - 4) + nI 4 := by
    rw [nI_add, Nat.sub_add_cancel h]
  rw [e, Int32.add_sub_cancel]
theorem subN {L : Nat} (h : L < 4) : nI L - nI 4 < 0 := by
  rcases (show L = 0 ∨ L = 1 ∨ L = 2 ∨ L = 3 by omega) with rfl | rfl | rfl | rfl <;> decide
theorem nI_step (i : Nat) : nI (4 * i) + Int32.ofInt 4 = nI (4 * (i + 1)) := by
  rw [show Int32.ofInt 4 = nI 4 by decide]
  exact nI_add (4 * i) 4
section LL
variable {g : kG} {cI cS : ClassId} {A : Nat → Prop} {ad am : Nat → Nat} {LV GV b L : Nat} {xs : Nat → Int32}
theorem law_switch (Y : Lx g cI cS A ad am LV GV b L xs) (hL : L ≤ 2048) {C M : kS} {i : Nat} (hi : 4 * i + 4 ≤ L) (hR : Rl C M) (v : Int32) (kk : ∀ C1 M1 : kS, Rl C1 M1 → LJ g cI cS ad am b C1 M1 682 i []) : LJ g cI cS ad am b C M 32 i [.int (v &&& 31)] := by
  obtain ⟨n, hn, e⟩ := and31 v
  have X := Y.1
  rw [e]
  match n, hn with
  | 0, _ => exact j_tabIn (pc := 32) (tgt := 136) X dL_law_32 rfl (by decide) (by decide) rfl (by decide) (law_0 Y hL hi hR kk)
  | 1, _ => exact j_tabIn (pc := 32) (tgt := 159) X dL_law_32 rfl (by decide) (by decide) rfl (by decide) (law_1 Y hL hi hR kk)
  | 2, _ => exact j_tabIn (pc := 32) (tgt := 172) X dL_law_32 rfl (by decide) (by decide) rfl (by decide) (law_2 Y hL hi hR kk)
  | 3, _ => exact j_tabIn (pc := 32) (tgt := 195) X dL_law_32 rfl (by decide) (by decide) rfl (by decide) (law_3 Y hL hi hR kk)
  | 4, _ => exact j_tabIn (pc := 32) (tgt := 208) X dL_law_32 rfl (by decide) (by decide) rfl (by decide) (law_4 Y hL hi hR kk)
  | 5, _ => exact j_tabIn (pc := 32) (tgt := 221) X dL_law_32 rfl (by decide) (by decide) rfl (by decide) (law_5 Y hL hi hR kk)
  | 6, _ => exact j_tabIn (pc := 32) (tgt := 234) X dL_law_32 rfl (by decide) (by decide) rfl (by decide) (law_6 Y hL hi hR kk)
  | 7, _ => exact j_tabIn (pc := 32) (tgt := 257) X dL_law_32 rfl (by decide) (by decide) rfl (by decide) (law_7 Y hL hi hR kk)
  | 8, _ => exact j_tabIn (pc := 32) (tgt := 280) X dL_law_32 rfl (by decide) (by decide) rfl (by decide) (law_8 Y hL hi hR kk)
  | 9, _ => exact j_tabIn (pc := 32) (tgt := 313) X dL_law_32 rfl (by decide) (by decide) rfl (by decide) (law_9 Y hL hi hR kk)
  | 10, _ => exact j_tabIn (pc := 32) (tgt := 346) X dL_law_32 rfl (by decide) (by decide) rfl (by decide) (law_10 Y hL hi hR kk)
  | 11, _ => exact j_tabIn (pc := 32) (tgt := 369) X dL_law_32 rfl (by decide) (by decide) rfl (by decide) (law_11 Y hL hi hR kk)
  | 12, _ => exact j_tabIn (pc := 32) (tgt := 402) X dL_law_32 rfl (by decide) (by decide) rfl (by decide) (law_12 Y hL hi hR kk)
  | 13, _ => exact j_tabIn (pc := 32) (tgt := 435) X dL_law_32 rfl (by decide) (by decide) rfl (by decide) (law_13 Y hL hi hR kk)
  | 14, _ => exact j_tabIn (pc := 32) (tgt := 468) X dL_law_32 rfl (by decide) (by decide) rfl (by decide) (law_14 Y hL hi hR kk)
  | 15, _ => exact j_tabIn (pc := 32) (tgt := 491) X dL_law_32 rfl (by decide) (by decide) rfl (by decide) (law_15 Y hL hi hR kk)
  | 16, _ => exact j_tabIn (pc := 32) (tgt := 534) X dL_law_32 rfl (by decide) (by decide) rfl (by decide) (law_16 Y hL hi hR kk)
  | 17, _ => exact j_tabIn (pc := 32) (tgt := 557) X dL_law_32 rfl (by decide) (by decide) rfl (by decide) (law_17 Y hL hi hR kk)
  | 18, _ => exact j_tabIn (pc := 32) (tgt := 600) X dL_law_32 rfl (by decide) (by decide) rfl (by decide) (law_18 Y hL hi hR kk)
  | 19, _ => exact j_tabIn (pc := 32) (tgt := 633) X dL_law_32 rfl (by decide) (by decide) rfl (by decide) (law_19 Y hL hi hR kk)
  | 20, _ => exact j_tabIn (pc := 32) (tgt := 656) X dL_law_32 rfl (by decide) (by decide) rfl (by decide) (law_20 Y hL hi hR kk)
  | 21, _ => exact j_tabIn (pc := 32) (tgt := 669) X dL_law_32 rfl (by decide) (by decide) rfl (by decide) (law_21 Y hL hi hR kk)
  | n + 22, hn => exact j_tabOut (pc := 32) (tgt := 682) X dL_law_32 (Or.inr (by rw [nI_toInt (by omega)]; omega)) (by decide) (kk _ _ hR)
theorem law_end (Y : Lx g cI cS A ad am LV GV b L xs) {C M : kS} {i : Nat} : LJ g cI cS ad am b C M 688 i [] :=
  j_iconst (pc := 688) (v := 1) Y.1 dL_law_688 (by decide) (Y.2.2.2.2.2.2.2 _ _)
theorem law_loop (Y : Lx g cI cS A ad am LV GV b L xs) (hL : L ≤ 2048) : ∀ (n i : Nat), 4 * i ≤ L → L + 1 ≤ 4 * i + n → ∀ C M : kS, Rl C M → LJ g cI cS ad am b C M 18 i [] := by
  have X := Y.1
  intro n
  induction n with
  | zero =>
    intro i h1 h2
    exact absurd h2 (by omega)
  | succ n ih =>
    intro i h1 h2 C M hR
    refine j_iload_n (pc := 18) (i := 3) X dL_law_18 rfl ?_
    refine j_aload_n (pc := 19) (i := 0) X dL_law_19 rfl ?_
    refine l_slen (pc := 20) Y dL_law_20 ?_
    refine j_iconst (pc := 21) (v := nI 4) X dL_law_21 (by decide) ?_
    refine j_isub (pc := 22) X dL_law_22 ?_
    refine j_icmp_gt (pc := 23) (tgt := 688) X dL_law_23 (by decide) (fun _ => law_end Y) (fun h => ?_)
    have hi : 4 * i + 4 ≤ L := by
      rcases Nat.lt_or_ge L 4 with q | q
      · exact absurd (Int32.lt_of_lt_of_le (subN q) (nI_pos' (by omega))) h
      · rw [sub4 q] at h
        rcases Nat.lt_or_ge (L - 4) (4 * i) with z | z
        · exact absurd ((nI_ltI (by omega) (by omega)).mpr z) h
        · omega
    refine j_aload_n (pc := 26) (i := 0) X dL_law_26 rfl ?_
    refine j_iload_n (pc := 27) (i := 3) X dL_law_27 rfl ?_
    refine l_sld (pc := 28) Y hL (by omega) dL_law_28 ?_
    refine j_bipush (pc := 29) (v := 31) X dL_law_29 (by decide) ?_
    refine j_iand (pc := 31) X dL_law_31 ?_
    refine law_switch Y hL hi hR _ (fun C1 M1 hR1 => ?_)
    refine j_iinc (pc := 682) (v := nI (4 * (i + 1))) X dL_law_682 rfl (nI_step i) (by decide) rfl ?_
    refine j_goto (pc := 685) (tgt := 18) X dL_law_685 (by decide) ?_
    exact ih (i + 1) (by omega) (by omega) C1 M1 hR1
end LL
/-- what the law's start stands on -/
def Kz (g : kG) (cI cS : ClassId) (cc : ByteArray) (own : String) (Ts : List Cond) (nL : Nat) (rm : Room) (A : Nat → Prop) (E : (Nat → Prop) → State → Prop) : Prop :=
  Kx (gS g 0 0) cI cS cc own Ts nL rm ∧ g.2.2.1 = va_S A g.1.2.2.2.2.heap ∧ (∀ q : Nat, g.1.2.2.2.2.heap.size ≤ q → A q) ∧ E A g.1.2.2.2.2 ∧ eOk E
section KZ
variable {g : kG} {cI cS : ClassId} {cc : ByteArray} {own : String} {Ts : List Cond} {nL : Nat} {rm : Room} {A : Nat → Prop} {E Ec : (Nat → Prop) → State → Prop} {cs sl pc : Nat} {lv lv' : List (Option Value)} {st st0 : List Value} {ws pre : va_W}
variable {y : MethodName} {wsc wsc' : List Cond} {rmc : Room} {bytes : ByteArray} {maxL index mc ms : Nat} {As : List Value} {b : Nat} {e0 : va_E} {w : (Nat → Nat) → va_W}
theorem Kz.x (Y : Kz g cI cS cc own Ts nL rm A E) (hc : cs ≤ rm.cells) (hs : sl ≤ rm.slots) : Kx (gS g cs sl) cI cS cc own Ts nL rm := ⟨Y.1.1, Y.1.2.1, Y.1.2.2.1, Y.1.2.2.2.1, Y.1.2.2.2.2.1, Y.1.2.2.2.2.2.1, Y.1.2.2.2.2.2.2.1, hc, hs⟩
theorem Kz.r (Y : Kz g cI cS cc own Ts nL rm A E) : g.1.2.2.2.1 = rm := Y.1.2.2.2.2.2.2.1
theorem Kz.c (Y : Kz g cI cS cc own Ts nL rm A E) {n : Nat} (h : n ≤ rm.cells) : n ≤ g.1.2.2.2.1.cells := by rw [Y.r]; exact h
theorem Kz.s (Y : Kz g cI cS cc own Ts nL rm A E) {n : Nat} (h : n ≤ rm.slots) : n ≤ g.1.2.2.2.1.slots := by rw [Y.r]; exact h
theorem Kz.f (Y : Kz g cI cS cc own Ts nL rm A E) {n : Nat} (h : n ≤ rm.frames) : n ≤ g.1.2.2.2.1.frames := by rw [Y.r]; exact h
theorem Kz.l (Y : Kz g cI cS cc own Ts nL rm A E) {n : Nat} (h : n ≤ rm.locals) : n ≤ g.1.2.2.2.1.locals := by rw [Y.r]; exact h
theorem z_new (Y : Kz g cI cS cc own Ts nL rm A E) (hD : va_D A ws) {Cn : String} {T : u_T} {N ci index : Nat} (hin : ∀ w ∈ u_ws Cn T N, w ∈ Ts) (ty0 : Nat → FieldType) (hty : ∀ k, k < N → parseFieldDescriptor (T k).2.2.1 = some (ty0 k)) (hcl : Cond.classLink own index Cn ∈ Ts) (hinst : Cond.instantiable Cn N ∈ Ts) (hini : Cond.initialized Cn ∈ Ts) (hc : vwCl[ci]? = some (Cn, T, N)) {fs : List Value} (hfs : ∀ j, j < N → defaultValue (ty0 j) = vp_V fs j) (hcs : cs + 1 ≤ rm.cells) (hsl : sl + N ≤ rm.slots) (hdg : decode cc pc = .ok (.new index, 3)) (kk : ∀ q : Nat, va_D A (ws ++ [(q, .inr (ci, fs))]) → JW g (cs + 1) (sl + N) nL (ws ++ [(q, .inr (ci, fs))]) (pc + 3) lv (.ref q :: st)) : JW g cs sl nL ws pc lv st := fun H locs ls hP hS hl => by
  have X := Y.1
  have hS : va_S A g.1.2.2.2.2.heap H locs := Eq.mp (congrFun (congrFun Y.2.1 H) locs) hS
  exact va_new X.1 X.2.1 X.2.2.2.2.1 hin ty0 hty X.2.2.2.1 (X.2.2.2.2.1 _ hcl) (X.2.2.2.2.1 _ hinst) (X.2.2.2.2.1 _ hini) X.2.2.2.2.2.1.1 hP hD hS Y.2.2.1 hc hfs (Y.c hcs) (Y.s hsl) hdg (fun q H1 hP1 hD1 hS1 => kk q hD1 H1 locs ls hP1 (Eq.mpr (congrFun (congrFun Y.2.1 H1) locs) hS1) hl)
theorem z_newc (Y : Kz g cI cS cc own Ts nL rm A E) (hD : va_D A (pre ++ [(b, e0)])) (hM : mC g.1.2.1 y wsc rmc g.2.2.2.1 cI cS Ec b e0 As w mc ms) (hEc : eOk Ec) (hE : ∀ (B : Nat → Prop) (U : State), E B U → Ec B U) (hG : GoodIn Ts wsc) (hw : wsc = Cond.code y bytes maxL none :: wsc') (hrc : rmc.cells = mc) (hrs : rmc.slots = ms) (hini : Cond.initialized y.cls ∈ Ts) (hlk : Cond.methodLink own index y ∈ Ts) (hinst : Cond.instanceMethod y ∈ Ts) (hy1 : y.name = "<init>") {n : Nat} (hd : kHd y n) (hR : kRm rmc rm maxL) (hn : As.length = n) (hcs : cs + mc ≤ rm.cells) (hsl : sl + ms ≤ rm.slots) (hsum : (st.map fun v => v.category).sum ≤ 8) (hst : st0 = As.reverse ++ .ref b :: st) (hdg : decode cc pc = .ok (.invokespecial index, 3)) (kk : ∀ ad : Nat → Nat, ad 0 = b → va_D A (pre ++ w ad) → JW g (cs + mc) (sl + ms) nL (pre ++ w ad) (pc + 3) lv st) : JW g cs sl nL (pre ++ [(b, e0)]) pc lv st0 := by
  intro H locs ls hP hS hl
  subst hst
  have X := Y.1
  have hk := X.2.2.2.2.2.1
  have hS : va_S A g.1.2.2.2.2.heap H locs := Eq.mp (congrFun (congrFun Y.2.1 H) locs) hS
  have hlast : (pre ++ [(b, e0)])[pre.length]? = some (b, e0) := by
    rw [List.getElem?_append_right (Nat.le_refl _), Nat.sub_self]
    rfl
  have hP : va_P g.2.2.2.1 vwCl (pre ++ [(b, e0)]) H := hP
  have hFc := va_free (wc := [(b, e0)]) hD hS Y.2.2.1 [pre.length] (by simp)
  have hP0 : va_P g.2.2.2.1 vwCl [(b, e0)] H := fun k x hx => by
    have hz : k = 0 := by
      have := (List.getElem?_eq_some_iff.mp hx).1
      simp at this
      omega
    subst hz
    have hx2 : (b, e0) = x := Option.some.inj hx
    rw [← hx2]
    exact hP pre.length _ hlast
  have hb := (hP pre.length _ hlast).lt
  refine va_callv (va_runI (As := As) (rest := st) (nL := nL) ⟨X.1, X.2.1, X.2.2.1, X.2.2.2.1, X.2.2.2.2.1⟩ (hM H.size) (cwI n X.2.2.2.2.1 hG hw hrc hrs (X.2.2.2.2.1 _ hini) (X.2.2.2.2.1 _ hlk) (X.2.2.2.2.1 _ hinst) hy1 hd ⟨Y.f hR.1, Y.l hR.2⟩) ⟨fun a U f mk q => ⟨q.1, q.2.1, q.2.2.1, q.2.2.2.1.blind, q.2.2.2.2.1, hEc.1 _ _ _ _ _ q.2.2.2.2.2⟩, fun U hU hW => ⟨rfl, by rw [hU], by rw [hU]; exact hP0, hk.warm hW, hb, hE _ _ (Y.2.2.2.2.2 A _ _ U Y.2.2.2.1 hW (fun q h1 h2 => by rw [hU]; exact hS.2.1 q h1 h2) hFc)⟩⟩ rfl hn hl.2.1 rfl (lv_room hsum) hdg ⟨Y.c hcs, Y.s hsl⟩) hS (fun q _ h => hFc q h) hFc (fun ad t H1 locs1 ht hvm h0 hB hz1 hk1 hS1 => ?_)
  obtain ⟨hP1, hD1⟩ := hB
  rw [ht] at hP1
  obtain ⟨hP2, hD2⟩ := g_join hP hD hk1 hFc hP1 hD1
  exact kk ad h0 hD2 H1 locs1 ls hP2 (Eq.mpr (congrFun (congrFun Y.2.1 H1) locs1) hS1) hl
theorem jw_to {ws2 : va_W} (f : ∀ H : Heap, va_P g.2.2.2.1 vwCl ws H → va_P g.2.2.2.1 vwCl ws2 H) (k : JW g cs sl nL ws2 pc lv st) : JW g cs sl nL ws pc lv st := fun H locs ls hP hS hl => k H locs ls (f H hP) hS hl
theorem jw_widen {cs2 sl2 : Nat} (h1 : cs ≤ cs2) (h2 : sl ≤ sl2) (k : JW g cs2 sl2 nL ws pc lv st) : JW g cs sl nL ws pc lv st := fun H locs ls hP hS hl => W.widen (k := cs2) (n := sl2) h1 h2 (k H locs ls hP hS hl)
end KZ
/-- the two worlds are apart -/
theorem two_I {A : Nat → Prop} {cI cS : ClassId} {ad am : Nat → Nat} {M : kS} (h : va_D A (wBB cI cS ad ++ WM cI am M)) : lwI A ad am := by
  have l : ∀ k : Nat, k < 132 → ∃ e, (wBB cI cS ad ++ WM cI am M)[k]? = some (ad k, e) := fun k hk => by
    obtain ⟨e, he⟩ := bb_at (cI := cI) (cS := cS) (ad := ad) hk
    exact ⟨e, by rw [List.getElem?_append_left (List.getElem?_eq_some_iff.mp he).1]; exact he⟩
  have r : ∀ k : Nat, k < 11 → (wBB cI cS ad ++ WM cI am M)[132 + k]? = some (am k, ceM cI am M k) := fun k hk => by
    rw [List.getElem?_append_right (by rw [bb_len]; omega), bb_len, Nat.add_sub_cancel_left]
    exact WM_at hk
  refine ⟨fun i j hi hj e => ?_, fun i j hi hj e => ?_, fun i j hi hj e => ?_, fun i hi => ?_, fun j hj => ?_⟩
  · obtain ⟨e1, h1⟩ := l i hi
    obtain ⟨e2, h2⟩ := l j hj
    exact h.1 i j _ _ h1 h2 e
  · have := h.1 (132 + i) (132 + j) _ _ (r i hi) (r j hj) e
    omega
  · obtain ⟨e1, h1⟩ := l i hi
    have := h.1 i (132 + j) _ _ h1 (r j hj) e
    omega
  · obtain ⟨e1, h1⟩ := l i hi
    exact h.2 i _ h1
  · exact h.2 (132 + j) _ (r j hj)
set_option maxHeartbeats 4000000 in
set_option maxRecDepth 100000 in
theorem law_go {g : kG} {cI cS : ClassId} {A : Nat → Prop} {tw tv LV GV b L : Nat} {xs : Nat → Int32} (Y : Kz g cI cS cL_law RL wsL_law 4 room_1 A (eHi cI tw tv)) (hZ : kZ A LV GV g.1.2.2.2.2) (hX : va_X b L xs g.1.2.2.2.2 g.1.2.2.2.2.heap) (hb : b < g.1.2.2.2.2.heap.size) (hbA : ¬ A b) (hL : L ≤ 2048) (hE : ∀ (ws : va_W) (lv : List (Option Value)), JW g 600000 7302250 4 ws 689 lv [.int 1]) : JW g 0 0 4 [] 0 [some (.ref b), none, none, none] [] := by
  have hD : va_D A [] := ⟨fun i j p q h => by simp at h, fun k q h => by simp at h⟩
  refine z_new (pc := 0) (cs := 0) (sl := 0) (ci := 8) (fs := [.null, .null, .null, .null, .null, .null, .null]) Y hD (fun w h => (gL_law_X8_init w (iwi_X8_init_X8 w h)).1) tyX8 tyX8_ok pr_x1 pr_x2 pr_x3 rfl (fun j hj => by rcases (show j = 0 ∨ j = 1 ∨ j = 2 ∨ j = 3 ∨ j = 4 ∨ j = 5 ∨ j = 6 by omega) with rfl | rfl | rfl | rfl | rfl | rfl | rfl <;> rfl) (Nat.le_of_ble_eq_true rfl) (Nat.le_of_ble_eq_true rfl) dL_law_0 (fun q hD => ?_)
  have X := Y.x (cs := 0 + 1) (sl := 0 + 7) (Nat.le_of_ble_eq_true rfl) (Nat.le_of_ble_eq_true rfl)
  refine j_dup (pc := 3) X dL_law_3 rfl ?_
  refine z_newc (ms := 4013) (pc := 4) (pre := []) (As := []) (maxL := 1) Y hD (c_X8_init g.1.2.1 g.2.2.2.1 cI cS q tw tv) (eHi_ok cI tw tv) (fun _ _ h => h) gL_law_X8_init rfl rfl rfl pr_x3 (List.mem_of_getElem? (i := 6) rfl) (List.mem_of_getElem? (i := 7) rfl) rfl (n := 0) (by decide +kernel) ⟨Nat.le_of_ble_eq_true rfl, Nat.le_of_ble_eq_true rfl⟩ rfl (Nat.le_of_ble_eq_true rfl) (Nat.le_of_ble_eq_true rfl) (Nat.le_of_ble_eq_true rfl) rfl dL_law_4 (fun ad had hD => ?_)
  rw [List.nil_append] at hD ⊢
  have X := Y.x (cs := 0 + 1 + 131) (sl := 0 + 7 + 4013) (Nat.le_of_ble_eq_true rfl) (Nat.le_of_ble_eq_true rfl)
  rw [← had]
  refine j_astore_n (pc := 7) (i := 1) X dL_law_7 (by decide) rfl ?_
  refine z_new (pc := 8) (cs := 0 + 1 + 131) (sl := 0 + 7 + 4013) (ci := 9) (fs := [.null, .null, .int 0, .null, .int 0, .int 0, .null, .null, .null, .int 0, .null, .null, .null, .null, .int 0]) Y hD (fun w h => (gL_law_X9_init w (iwi_X9_init_X9 w h)).1) tyX9 tyX9_ok pr_x4 pr_x5 pr_x6 rfl (fun j hj => by rcases (show j = 0 ∨ j = 1 ∨ j = 2 ∨ j = 3 ∨ j = 4 ∨ j = 5 ∨ j = 6 ∨ j = 7 ∨ j = 8 ∨ j = 9 ∨ j = 10 ∨ j = 11 ∨ j = 12 ∨ j = 13 ∨ j = 14 by omega) with rfl | rfl | rfl | rfl | rfl | rfl | rfl | rfl | rfl | rfl | rfl | rfl | rfl | rfl | rfl <;> rfl) (Nat.le_of_ble_eq_true rfl) (Nat.le_of_ble_eq_true rfl) dL_law_8 (fun q2 hD => ?_)
  have X := Y.x (cs := 0 + 1 + 131 + 1) (sl := 0 + 7 + 4013 + 15) (Nat.le_of_ble_eq_true rfl) (Nat.le_of_ble_eq_true rfl)
  refine j_dup (pc := 11) X dL_law_11 rfl ?_
  refine z_newc (ms := 3690) (pc := 12) (pre := wBB cI cS ad) (As := []) (maxL := 5) Y hD (c_X9_init g.1.2.1 g.2.2.2.1 cI cS q2) eNo_ok (fun _ _ _ => trivial) gL_law_X9_init rfl rfl rfl pr_x6 (List.mem_of_getElem? (i := 131) (by decide +kernel)) (List.mem_of_getElem? (i := 132) (by decide +kernel)) rfl (n := 0) (by decide +kernel) ⟨Nat.le_of_ble_eq_true rfl, Nat.le_of_ble_eq_true rfl⟩ rfl (Nat.le_of_ble_eq_true rfl) (Nat.le_of_ble_eq_true rfl) (Nat.le_of_ble_eq_true rfl) rfl dL_law_12 (fun am ham hD => ?_)
  have X := Y.x (cs := 0 + 1 + 131 + 1 + 10) (sl := 0 + 7 + 4013 + 15 + 3690) (Nat.le_of_ble_eq_true rfl) (Nat.le_of_ble_eq_true rfl)
  rw [← ham]
  refine j_astore_n (pc := 15) (i := 2) X dL_law_15 (by decide) rfl ?_
  refine j_iconst (pc := 16) (v := nI (4 * 0)) X dL_law_16 (by decide) ?_
  refine j_istore_n (pc := 17) (i := 3) X dL_law_17 (by decide) rfl ?_
  have hD2 : va_D A (wBB cI cS ad ++ WM cI am (mk9 26)) := hD
  have hI : lwI A ad am := two_I hD2
  refine jw_to (ws2 := WC cI cS ad C0 ++ WM cI am M0) (fun H hP => va_P.app (bb_P (P_l (w1 := wBB cI cS ad) (w2 := WM cI am (mk9 26)) hP)) (P_r (w1 := wBB cI cS ad) (w2 := WM cI am (mk9 26)) hP)) ?_
  refine jw_widen (cs2 := 600000) (sl2 := 7302250) (Nat.le_of_ble_eq_true rfl) (Nat.le_of_ble_eq_true rfl) ?_
  exact law_loop (g := gS g 600000 7302250) (A := A) (LV := LV) (GV := GV) (xs := xs) ⟨Y.x (Nat.le_of_ble_eq_true rfl) (Nat.le_of_ble_eq_true rfl), Y.2.1, hI, hZ, hX, hb, hbA, hE⟩ hL (L + 1) 0 (by omega) (by omega) C0 M0 Rl0
set_option maxHeartbeats 4000000 in
set_option maxRecDepth 100000 in
/-- from the entry, for every script of at most 2048 ints, the law comes to its end with true -/
theorem whole_start {p : Program} {e : Env} {s : State} {m : MethodId} {below : List Frame} {meth : Method} {c : Code} (l : Launch) (hflags : l.flags = flags0) {b L : Nat} {xs : Nat → Int32} (hL : L ≤ 2048) (C0 : lw_At p s m meth c b L xs) : W p l e room_1 s m #[Value.ref b] below meth c s.heap [] 0 0 (lw_Z below #[Value.ref b] s) (entryFrame m ([Value.ref b] : List Value).toArray 4) := by
  obtain ⟨hx, hb, hr, hml, hown, hts, hX, hbl, hlocks, hgv⟩ := C0
  obtain ⟨D, cI, cS, hK⟩ := pr_K hts
  have hA0 : ∀ a : Nat, a < s.heap.size → ¬ (fun q : Nat => s.heap.size ≤ q) a := fun a h => Nat.not_le.mpr h
  obtain ⟨tw, tv, LV, GV, hEi, hZ⟩ := pr_E hts hgv (hK.1.2 0 (cI, .int) rfl).2 hA0
  rw [lg_entry_eq]
  have hJ : JW ((p, l, e, room_1, s), (m, #[Value.ref b], below, meth, c), va_S (fun q : Nat => s.heap.size ≤ q) s.heap, D, (0, 0), lw_Z below #[Value.ref b] s) 0 0 4 [] 0 [some (.ref b), none, none, none] [] :=
    law_go (A := fun q : Nat => s.heap.size ≤ q) (tw := tw) (tv := tv) (LV := LV) (GV := GV) (L := L) (xs := xs) ⟨⟨hx, hb, hml, hown, fun w h => hts w (wsL_law_in w h), hK, rfl, Nat.zero_le _, Nat.zero_le _⟩, rfl, fun _ h => h, hEi, eHi_ok cI tw tv⟩ hZ hX hbl (Nat.not_le.mpr hbl) hL (fun ws lv H locs ls hP hS hl => by
      have hS : va_S (fun q : Nat => s.heap.size ≤ q) s.heap H locs := hS
      show W p l e room_1 s m #[Value.ref b] below meth c H locs 600000 7302250 (lw_Z below #[Value.ref b] s) (F0 m 689 ls [.int 1])
      refine va_forget (fun q hq => hS.2.2 q hq) ?_
      exact lw_ret hx hb hr hlocks dL_law_689)
  exact hJ s.heap [] _ (fun k q h => by simp [kWs] at h) va_S.rf (kO.entry (vs := [.ref b]) (fun w h => by
    have h1 : w = .ref b := by simpa using h
    rw [h1]
    rfl) (Nat.le_of_ble_eq_true rfl))
