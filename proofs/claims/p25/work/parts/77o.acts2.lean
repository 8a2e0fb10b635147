/-! ===== the law's acts: a letter's width, names and endings taken away ===== -/
theorem i32_64 (x : Int32) : x.toInt64.toInt32 = x := by simp
theorem gL_i {α : Type} (x : Int32) (y : Option α) : gL x.toInt64 y = y := gL_t (by rw [i32_64])
section AD
variable {C M L : kS} {a : kA} {N t v r : Nat} {c : Nat → Nat} {z : Int32}
theorem A_widen (hR : RA C M a t c) (hb : LB a) (hL : LR L a) (hv : v < 10000000) (h1 : f_L_low N (z >>> (nI 5 &&& 31)) 10000000 = some (nI v)) (h2 : f_L_low N z 18 = some (nI r)) (hr : r < 18) (hr2 : 11 ≤ r) (hr3 : r < 13) (hN : 3000 ≤ N) : XQ (f_L_acts N (C, L) z) := by
  obtain ⟨C1, M1, e1, hR1⟩ := E_clear (N := N) hR
  have ht := hR.tx.1
  unfold f_L_acts
  rw [i_5, h1, ob]
  dsimp only
  rw [e1, ob, jn_eq]
  dsimp only
  simp only [i_0, i_1, i_2, i_3, i_4, i_5, i_6, i_7, i_8, i_9, i_10, i_11, i_12]
  refine XQ.of (jp1 (x := nI 1) (fun j => if_neg (nI_pos (by omega)))) ?_
  try dsimp only
  rw [h2, ob, jn_eq, jn_eq, jn_eq, jn_eq, sel3n hr (by omega), sel4n hr (by omega), sel2an hr (by omega), if_neg (nI_ne hr (by decide) (by omega)), if_neg (nI_ne hr (by decide) (by omega)), sel2b hr2 hr3]
  have hw := hR.rc.1
  obtain ⟨d, hd, hdl⟩ := f_letters (N := N) (nI v) (m := 1) (by decide) hN
  have h5 : nI v - nI v / nI 5 * nI 5 = nI (v % 5) := q_rem (by omega) (by decide) (by decide)
  have hd5 : nI v / nI 5 = nI (v / 5) := q_div (by omega) (by decide) (by decide)
  have hd130 : nI v / 130 = nI (v / 130) := by rw [i_130]; exact q_div (by omega) (by decide) (by decide)
  have hm9 : nI (v / 130) - nI (v / 130) / nI 9 * nI 9 = nI (v / 130 % 9) := q_rem (by omega) (by decide) (by decide)
  rw [q_nz (by decide) (by decide)]
  simp only [h5]
  simp only [hd5, hd130, hm9, nI_add]
  obtain ⟨x, hx, hsel⟩ : ∃ x, x < 26 ∧ (if v % 5 = 0 then v / 5 % 26 else d 0) = x := by
    refine ⟨_, ?_, rfl⟩
    split
    · exact Nat.mod_lt _ (by decide)
    · exact hd 0 (by decide)
  refine XQ.of (jp1 (x := nI x) (fun j => ?_)) ?_
  · have hm := Nat.mod_lt v (show 0 < 5 by decide)
    have q26 : nI (v / 5) - nI (v / 5) / nI 26 * nI 26 = nI (v / 5 % 26) := q_rem (by omega) (by decide) (by decide)
    have z5 : ∀ x : Option (Int32 × (kS × kS)), gNz (nI 5) x = x := fun x => q_nz (by decide) (by decide)
    have z26 : ∀ x : Option (Int32 × (kS × kS)), gNz (nI 26) x = x := fun x => q_nz (by decide) (by decide)
    have e4 : (lN (enc d 1)).toInt32 - nI 1 = nI (d 0) := by
      rw [lN_i, enc, enc, q_sub (by omega)]
      congr 1
      omega
    simp only [i_26, q26, z5, z26, hdl, ob, e4, q_eq (show v % 5 < 2147483648 by omega) (show 0 < 2147483648 by decide)]
    rw [← hsel]
    split <;> rfl
  try dsimp only
  have hy : 1 ≤ 1 + v / 130 % 9 ∧ 1 + v / 130 % 9 ≤ 9 := by omega
  obtain ⟨C2, M2, e2, hR2⟩ := E_widen (N := N) hR1 (x := x) (y := 1 + v / 130 % 9) hx hy hN
  rw [q_gIn hx (by decide), i_130, q_nz (by decide) (by decide), q_nz (by decide) (by decide), q_gIn hx (by decide), q_cl (by omega), jn_eq]
  dsimp only
  refine XQ.of (jp2 (x := nI 1) (y := (C2, up1 L 1 (upd (L 1) x (nI (1 + v / 130 % 9))))) (fun j => ?_)) ?_
  · rw [if_neg (by rw [q_nT]; exact not_false), q_gIn hx (by decide), i_97, nI_add, up1_s, pk_us, e2, ob, jn_eq]
    dsimp only
    rw [if_pos (hL.2.1 x hx).symm]
  refine XQ.fin ⟨M2, _, _, _, hR2, hb.cg (fun j hj => un_n (by omega)), ?_⟩
  have hlc : ∀ p, 34 ≤ p → lc (un a (8 + x) (1 + v / 130 % 9)) p = lc a p := fun p hp => lc_cg (fun j hj => un_n (by omega))
  refine LR.mk (fun i hi => ?_) ?_ ?_ ?_ (fun k hk => ?_) (fun w hw => ?_) (fun n hn => ?_) (fun e he => ?_)
  · rw [up1_n (by decide), un_n (by omega)]
    exact hL.s hi
  · rw [up1_n (by decide), un_n (by omega)]
    exact hL.1.2.1
  · rw [up1_n (by decide), un_n (by omega)]
    exact hL.1.2.2.1
  · rw [up1_n (by decide), un_n (by omega)]
    exact hL.1.2.2.2
  · rw [up1_s]
    by_cases y : k = x
    · rw [y, pk_us, un_s]
    · rw [pk_un y, un_n (by omega)]
      exact hL.2.1 k hk
  · rw [un_n (by omega)] at hw
    rw [up1_n (by decide), hlc _ (by omega), un_n (by omega)]
    exact hL.2.2.1 w hw
  · rw [un_n (by omega)] at hn
    rw [up1_n (by decide), hlc _ (by omega), un_n (by omega)]
    exact hL.2.2.2.1 n hn
  · rw [un_n (by omega)] at he
    rw [up1_n (by decide), hlc _ (by omega), un_n (by omega)]
    exact hL.2.2.2.2 e he
/-- a row taken away -/
theorem rmv_o {ci base wide w j : Nat} (h1 : j ≠ ci) (h2 : j < base ∨ base + wide * (a ci - 1) ≤ j) (h3 : base ≤ base + wide * w) : rmv ci base wide w a j = a j := by
  unfold rmv
  rw [if_neg h1, if_neg (by omega)]
theorem rmv_c {ci base wide w : Nat} : rmv ci base wide w a ci = a ci - 1 := by unfold rmv; rw [if_pos rfl]
theorem rmv_lo {ci base wide w n i : Nat} (hc : ci < base) (hn : n < w) (hi : i < wide) : rmv ci base wide w a (base + wide * n + i) = a (base + wide * n + i) := by
  have := wm (wide := wide) hn
  unfold rmv
  rw [if_neg (by omega), if_neg (by omega)]
theorem rmv_hi {ci base wide w n i : Nat} (hc : ci < base) (hn : w ≤ n) (hn2 : n < a ci - 1) (hi : i < wide) : rmv ci base wide w a (base + wide * n + i) = a (base + wide * (n + 1) + i) := by
  have h1 := wm (wide := wide) hn2
  have h2 := Nat.mul_le_mul_left wide hn
  unfold rmv
  rw [if_neg (by omega), if_pos (by omega), Nat.mul_succ]
  congr 1
  omega
theorem rmv_enc {ci base wide w n : Nat} (hc : ci < base) (hn : n < a ci - 1) (hl : ∀ v, v < a ci → a (base + wide * v) < wide) : rmv ci base wide w a (base + wide * n) = a (base + wide * (if n < w then n else n + 1)) ∧ enc (lc (rmv ci base wide w a) (base + wide * n)) (rmv ci base wide w a (base + wide * n)) = enc (lc a (base + wide * (if n < w then n else n + 1))) (a (base + wide * (if n < w then n else n + 1))) := by
  by_cases y : n < w
  · rw [if_pos y]
    have h0 := rmv_lo (a := a) (ci := ci) (base := base) (wide := wide) (w := w) (n := n) (i := 0) hc y (by have := hl n (by omega); omega)
    rw [Nat.add_zero] at h0
    rw [h0]
    refine ⟨rfl, enc_congr (fun i hi => ?_)⟩
    have := hl n (by omega)
    unfold lc
    rw [Nat.add_assoc, rmv_lo hc y (by omega), Nat.add_assoc]
  · rw [if_neg y]
    have h0 := rmv_hi (a := a) (ci := ci) (base := base) (wide := wide) (w := w) (n := n) (i := 0) hc (show w ≤ n by omega) hn (by have := hl n (by omega); omega)
    rw [Nat.add_zero, Nat.add_zero] at h0
    rw [h0]
    refine ⟨rfl, enc_congr (fun i hi => ?_)⟩
    have := hl (n + 1) (by omega)
    unfold lc
    rw [Nat.add_assoc, rmv_hi hc (by omega) hn (by omega), ← Nat.add_assoc]
theorem f_665 {w : Nat} (hw : w < 4) (kont : kS × kS → Option (Int32 × (kS × kS))) (hN : 3000 ≤ N) : ∃ L', lp_L_acts_665 N kont N (nI (8 + w)) (C, L) = kont (C, L') ∧ (∀ j, j ≠ 2 → L' j = L j) ∧ ∀ i, L' 2 i = if 8 + w ≤ i ∧ i < 11 then L 2 (i + 1) else L 2 i := by
  obtain ⟨p, n, ⟨L', h1, h2, h3⟩, e⟩ := lpN (fun n i (p : kS × kS) => lp_L_acts_665 N kont n (nI (8 + w + i)) p) (fun i p => ∃ L', p = (C, L') ∧ (∀ j, j ≠ 2 → L' j = L j) ∧ ∀ k, L' 2 k = if 8 + w ≤ k ∧ k < 8 + w + i then L 2 (k + 1) else L 2 k) (3 - w) (fun n i p hi hI => by
    obtain ⟨L', h1, h2, h3⟩ := hI
    subst h1
    refine ⟨(C, up1 L' 2 (upd (L' 2) (8 + w + i) (L' 2 (8 + w + i + 1)))), ⟨_, rfl, fun j hj => by rw [up1_n hj]; exact h2 j hj, fun k => ?_⟩, ?_⟩
    · rw [up1_s]
      by_cases y : k = 8 + w + i
      · rw [y, pk_us, if_pos (by omega), h3, if_neg (by omega)]
      · rw [pk_un y, h3]
        by_cases y2 : 8 + w ≤ k ∧ k < 8 + w + i
        · rw [if_pos y2, if_pos (by omega)]
        · rw [if_neg y2, if_neg (by omega)]
    · show lp_L_acts_665 N kont (n + 1) (nI (8 + w + i)) (C, L') = lp_L_acts_665 N kont n (nI (8 + w + (i + 1))) _
      rw [lp_L_acts_665, i_11, if_neg (fun q => by have := (nI_leI (by omega) (by omega)).mp q; omega), i_1, nI_add, q_gIn (by omega) (by decide), q_gIn (by omega) (by decide), gL_i, jn_eq, i32_64, q_cl (by omega), q_cl (by omega)]
      rfl) (N := N) 0 (C, L) (Nat.zero_le _) (by omega) ⟨L, rfl, fun _ _ => rfl, fun k => by rw [if_neg (by omega)]⟩
  refine ⟨L', e.trans ?_, h2, fun i => ?_⟩
  · show lp_L_acts_665 N kont (n + 1) (nI (8 + w + (3 - w))) p = _
    rw [lp_L_acts_665, show 8 + w + (3 - w) = 11 by omega, if_pos (by decide), h1]
  · rw [h3 i, show 8 + w + (3 - w) = 11 by omega]
theorem A_dropN (hR : RA C M a t c) (hb : LB a) (hL : LR L a) (hv : v < 10000000) (h1 : f_L_low N (z >>> (nI 5 &&& 31)) 10000000 = some (nI v)) (h2 : f_L_low N z 18 = some (nI r)) (hr : r < 18) (hr2 : r = 9) (hN : 3000 ≤ N) : XQ (f_L_acts N (C, L) z) := by
  obtain ⟨C1, M1, e1, hR1⟩ := E_clear (N := N) hR
  have ht := hR.tx.1
  unfold f_L_acts
  rw [i_5, h1, ob]
  dsimp only
  rw [e1, ob, jn_eq]
  dsimp only
  simp only [i_0, i_1, i_2, i_3, i_4, i_5, i_6, i_7, i_8, i_9, i_10, i_11, i_12]
  refine XQ.of (jp1 (x := nI 1) (fun j => if_neg (nI_pos (by omega)))) ?_
  try dsimp only
  rw [h2, ob, jn_eq, jn_eq, jn_eq, jn_eq, sel3n hr (by omega), sel4n hr (by omega), sel2an hr (by omega), if_pos (by rw [hr2])]
  have hw := hR.rc.1
  have w1 := hb.2.1
  have g6 : L 0 6 = nI (a 1) := hL.1.2.2.1
  have c6 : (nI 6).toNatClampNeg = 6 := q_cl (by decide)
  have g6' : ∀ x : Option (Int32 × (kS × kS)), gIn (nI 6) 8 x = x := fun x => q_gIn (by decide) (by decide)
  have h3 : nI v - nI v / nI 3 * nI 3 = nI (v % 3) := q_rem (by omega) (by decide) (by decide)
  have hd3 : nI v / nI 3 = nI (v / 3) := q_div (by omega) (by decide) (by decide)
  have z3 : ∀ x : Option (Int32 × (kS × kS)), gNz (nI 3) x = x := fun x => q_nz (by decide) (by decide)
  have hm := Nat.mod_lt v (show 0 < 3 by decide)
  simp only [c6, g6, g6', h3, z3]
  simp only [hd3, q_eq (show a 1 < 2147483648 by omega) (show 0 < 2147483648 by decide), q_le (show v % 3 < 2147483648 by omega) (show 0 < 2147483648 by decide)]
  rw [jn_eq]
  by_cases y : a 1 = 0 ∨ ¬ v % 3 ≤ 0
  · have e3 : ∀ P Q : Option (Int32 × (kS × kS)), (if a 1 = 0 then P else if v % 3 ≤ 0 then Q else P) = P := fun P Q => by
      rcases y with y | y
      · rw [if_pos y]
      · rw [if_neg y]
        split <;> rfl
    rw [e3]
    refine XQ.of (jp2 (x := nI 1) (y := (C1, L)) (fun j => ?_)) (XQ.fin ⟨M1, a, 0, c, hR1, hb, hL⟩)
    rw [if_neg (by rw [q_nT]; exact not_false), E_dropNameF hR1, ob, jn_eq]
    dsimp only
    rw [if_pos (by decide)]
  · have y1 : ¬ a 1 = 0 := fun q => y (Or.inl q)
    have y2 : v % 3 ≤ 0 := Nat.not_lt.mp (fun q => y (Or.inr (Nat.not_le.mpr q)))
    have hgl : v / 3 % a 1 < a 1 := Nat.mod_lt _ (by omega)
    rw [if_neg y1, if_pos y2, q_nz (by omega) (by omega), q_rem (by omega) (by omega) (by omega), jn_eq, nI_add]
    generalize v / 3 % a 1 = w at hgl
    obtain ⟨L', e3, k1, k2⟩ := f_665 (N := N) (C := C1) (L := L) (w := w) (by omega) (fun p237 => jn ((p237.1, up1 p237.2 0 (upd (p237.2 0) 6 (p237.2 0 6 - nI 1)))) (fun p241 : kS × kS => jn (fun (t242 : Int32) (p243 : kS × kS) => some (t242 &&& nI 1, p243)) (fun j719_243 => if nI 1 = nI 0 then j719_243 (nI 0) p241 else (f_X8_dropName N p241.1 (nI w)).bind (fun r247 => jn ((r247.2, p241.2)) (fun p248 : kS × kS => if r247.1 = (p248.2 0 6) then j719_243 (nI 1) p248 else j719_243 (nI 0) p248))))) hN
    rw [jn_eq]
    refine XQ.of e3 ?_
    rw [jn_eq]
    dsimp only
    have g6L : L' 0 6 = nI (a 1) := by rw [k1 0 (by decide)]; exact g6
    rw [g6L, q_sub (by omega)]
    obtain ⟨C2, M2, e2, hR2⟩ := E_dropName (N := N) hR1 hgl hN
    refine XQ.of (jp2 (x := nI 1) (y := (C2, up1 L' 0 (upd (L' 0) 6 (nI (a 1 - 1))))) (fun j => ?_)) ?_
    · rw [if_neg (by rw [q_nT]; exact not_false), e2, ob, jn_eq]
      dsimp only
      rw [if_pos (by rw [up1_s, pk_us])]
    have hl9 : ∀ v, v < a 1 → a (554 + 9 * v) < 9 := fun v hv => by
      have := hb.2.2.2.2.1 v hv
      omega
    have hro : ∀ j, j ≠ 1 → (j < 554 ∨ 626 ≤ j) → rmv 1 554 9 w a j = a j := fun j j1 j2 => rmv_o j1 (by omega) (by omega)
    refine XQ.fin ⟨M2, _, _, _, hR2, ⟨by rw [hro 0 (by decide) (by decide)]; exact hb.1, by rw [rmv_c]; omega, by rw [hro 2 (by decide) (by decide)]; exact hb.2.2.1, fun w' hw' => ?_, fun n hn => ?_, fun e he => ?_⟩, ?_⟩
    · rw [hro 0 (by decide) (by decide)] at hw'
      have := hb.1
      rw [hro _ (by omega) (by omega)]
      exact hb.2.2.2.1 w' hw'
    · rw [rmv_c] at hn
      rw [(rmv_enc (by decide) hn hl9).1]
      exact hb.2.2.2.2.1 _ (by split <;> omega)
    · rw [hro 2 (by decide) (by decide)] at he
      rw [hro _ (by omega) (by omega)]
      exact hb.2.2.2.2.2 e he
    refine LR.mk (fun i hi => ?_) ?_ ?_ ?_ (fun k hk => ?_) (fun w' hw' => ?_) (fun n hn => ?_) (fun e he => ?_)
    · rw [up1_s, pk_un (by omega), k1 0 (by decide), hro _ (by omega) (by omega)]
      exact hL.s hi
    · rw [up1_s, pk_un (by omega), k1 0 (by decide), hro 0 (by decide) (by decide)]
      exact hL.1.2.1
    · rw [up1_s, pk_us, rmv_c]
    · rw [up1_s, pk_un (by omega), k1 0 (by decide), hro 2 (by decide) (by decide)]
      exact hL.1.2.2.2
    · rw [up1_n (by decide), k1 1 (by decide), hro _ (by omega) (by omega)]
      exact hL.2.1 k hk
    · rw [hro 0 (by decide) (by decide)] at hw'
      have := hb.1
      have hlen := hb.2.2.2.1 w' hw'
      rw [up1_n (by decide), k2, if_neg (by omega), hro _ (by omega) (by omega), hL.2.2.1 w' hw']
      congr 1
      exact enc_congr (fun i hi => by
        unfold lc
        rw [hro _ (by omega) (by omega)])
    · rw [rmv_c] at hn
      obtain ⟨q1, q2⟩ := rmv_enc (w := w) (by decide) hn hl9
      rw [up1_n (by decide), k2, q2]
      by_cases y : n < w
      · rw [if_pos y, if_neg (by omega)]
        exact hL.2.2.2.1 n (by omega)
      · rw [if_neg y, if_pos (by omega)]
        exact hL.2.2.2.1 (n + 1) (by omega)
    · rw [hro 2 (by decide) (by decide)] at he
      rw [up1_n (by decide), k2, if_neg (by omega), hro _ (by omega) (by omega), hL.2.2.2.2 e he]
      congr 1
      exact enc_congr (fun i hi => by
        unfold lc
        rw [hro _ (by omega) (by omega)])
theorem A_dropE (hR : RA C M a t c) (hb : LB a) (hL : LR L a) (hv : v < 10000000) (h1 : f_L_low N (z >>> (nI 5 &&& 31)) 10000000 = some (nI v)) (h2 : f_L_low N z 18 = some (nI r)) (hr : r < 18) (hr2 : r = 10) (hN : 3000 ≤ N) : XQ (f_L_acts N (C, L) z) := by
  obtain ⟨C1, M1, e1, hR1⟩ := E_clear (N := N) hR
  have ht := hR.tx.1
  unfold f_L_acts
  rw [i_5, h1, ob]
  dsimp only
  rw [e1, ob, jn_eq]
  dsimp only
  simp only [i_0, i_1, i_2, i_3, i_4, i_5, i_6, i_7, i_8, i_9, i_10, i_11, i_12]
  refine XQ.of (jp1 (x := nI 1) (fun j => if_neg (nI_pos (by omega)))) ?_
  try dsimp only
  rw [h2, ob, jn_eq, jn_eq, jn_eq, jn_eq, sel3n hr (by omega), sel4n hr (by omega), sel2an hr (by omega), if_neg (nI_ne hr (by decide) (by omega)), if_pos (by rw [hr2])]
  have hw := hR.rc.1
  have w2 := hb.2.2.1
  have g7 : L 0 7 = nI (a 2) := hL.1.2.2.2
  have c7 : (nI 7).toNatClampNeg = 7 := q_cl (by decide)
  have g7' : ∀ x : Option (Int32 × (kS × kS)), gIn (nI 7) 8 x = x := fun x => q_gIn (by decide) (by decide)
  have h3 : nI v - nI v / nI 3 * nI 3 = nI (v % 3) := q_rem (by omega) (by decide) (by decide)
  have hd3 : nI v / nI 3 = nI (v / 3) := q_div (by omega) (by decide) (by decide)
  have z3 : ∀ x : Option (Int32 × (kS × kS)), gNz (nI 3) x = x := fun x => q_nz (by decide) (by decide)
  have hm := Nat.mod_lt v (show 0 < 3 by decide)
  simp only [c7, g7, g7', h3, z3]
  simp only [hd3, q_eq (show a 2 < 2147483648 by omega) (show 0 < 2147483648 by decide), q_le (show v % 3 < 2147483648 by omega) (show 0 < 2147483648 by decide)]
  rw [jn_eq]
  by_cases y : a 2 = 0 ∨ ¬ v % 3 ≤ 0
  · have e3 : ∀ P Q : Option (Int32 × (kS × kS)), (if a 2 = 0 then P else if v % 3 ≤ 0 then Q else P) = P := fun P Q => by
      rcases y with y | y
      · rw [if_pos y]
      · rw [if_neg y]
        split <;> rfl
    rw [e3]
    refine XQ.of (jp2 (x := nI 1) (y := (C1, L)) (fun j => ?_)) (XQ.fin ⟨M1, a, 0, c, hR1, hb, hL⟩)
    rw [if_neg (by rw [q_nT]; exact not_false), E_dropEndingF hR1, ob, jn_eq]
    dsimp only
    rw [if_pos (by decide)]
  · have y1 : ¬ a 2 = 0 := fun q => y (Or.inl q)
    have y2 : v % 3 ≤ 0 := Nat.not_lt.mp (fun q => y (Or.inr (Nat.not_le.mpr q)))
    have hgl : v / 3 % a 2 < a 2 := Nat.mod_lt _ (by omega)
    have c12 : (nI 12).toNatClampNeg = 12 := q_cl (by decide)
    have c13 : (13 : Int32).toNatClampNeg = 13 := by decide
    have g12 : ∀ x : Option (Int32 × (kS × kS)), gIn (nI 12) 14 x = x := fun x => q_gIn (by decide) (by decide)
    have g13 : ∀ x : Option (Int32 × (kS × kS)), gIn 13 14 x = x := fun x => gIn_t (by unfold vp_in; decide)
    rw [if_neg y1, if_pos y2, q_nz (by omega) (by omega), q_rem (by omega) (by omega) (by omega)]
    refine XQ.of (jp1 (x := (if v / 3 % a 2 = 0 then L 2 13 else L 2 12).toInt64) (fun j => ?_)) ?_
    · simp only [q_eq (show v / 3 % a 2 < 2147483648 by omega) (show 0 < 2147483648 by decide), g12, g13, c12, c13]
      split <;> rfl
    try dsimp only
    rw [g12, gL_i, jn_eq, jn_eq, i32_64, c12]
    dsimp only
    have g7L : (up1 L 2 (upd (L 2) 12 (if v / 3 % a 2 = 0 then L 2 13 else L 2 12))) 0 7 = nI (a 2) := by rw [up1_n (by decide)]; exact g7
    simp only [g7L, q_sub (show 1 ≤ a 2 by omega)]
    obtain ⟨C2, M2, e2, hR2⟩ := E_dropEnding (N := N) hR1 hgl hN
    generalize hL2 : up1 L 2 (upd (L 2) 12 (if v / 3 % a 2 = 0 then L 2 13 else L 2 12)) = L2 at g7L
    refine XQ.of (jp2 (x := nI 1) (y := (C2, up1 L2 0 (upd (L2 0) 7 (nI (a 2 - 1))))) (fun j => ?_)) ?_
    · have e7 : (up1 L2 0 (upd (L2 0) 7 (nI (a 2 - 1)))) 0 7 = nI (a 2 - 1) := by rw [up1_s, pk_us]
      simp only [e7, nI_add, Nat.sub_add_cancel (show 1 ≤ a 2 by omega)]
      rw [if_neg (by rw [q_nT]; exact not_false), q_nz (by omega) (by omega), q_rem (by omega) (by omega) (by omega), e2, ob, jn_eq]
      dsimp only
      rw [if_pos (by rw [up1_s, pk_us])]
    have hl4 : ∀ v, v < a 2 → a (626 + 4 * v) < 4 := fun v hv => by
      have := hb.2.2.2.2.2 v hv
      omega
    have k1 : ∀ j, j ≠ 2 → L2 j = L j := fun j hj => by rw [← hL2, up1_n hj]
    have hro : ∀ j, j ≠ 2 → j < 626 → rmv 2 626 4 (v / 3 % a 2) a j = a j := fun j j1 j2 => rmv_o j1 (by omega) (by omega)
    refine XQ.fin ⟨M2, _, _, _, hR2, ⟨by rw [hro 0 (by decide) (by decide)]; exact hb.1, by rw [hro 1 (by decide) (by decide)]; exact hb.2.1, by rw [rmv_c]; omega, fun w' hw' => ?_, fun n hn => ?_, fun e he => ?_⟩, ?_⟩
    · rw [hro 0 (by decide) (by decide)] at hw'
      have := hb.1
      rw [hro _ (by omega) (by omega)]
      exact hb.2.2.2.1 w' hw'
    · rw [hro 1 (by decide) (by decide)] at hn
      have := hb.2.1
      rw [hro _ (by omega) (by omega)]
      exact hb.2.2.2.2.1 n hn
    · rw [rmv_c] at he
      rw [(rmv_enc (by decide) he hl4).1]
      exact hb.2.2.2.2.2 _ (by split <;> omega)
    refine LR.mk (fun i hi => ?_) ?_ ?_ ?_ (fun k hk => ?_) (fun w' hw' => ?_) (fun n hn => ?_) (fun e he => ?_)
    · rw [up1_s, pk_un (by omega), k1 0 (by decide), hro _ (by omega) (by omega)]
      exact hL.s hi
    · rw [up1_s, pk_un (by omega), k1 0 (by decide), hro 0 (by decide) (by decide)]
      exact hL.1.2.1
    · rw [up1_s, pk_un (by omega), k1 0 (by decide), hro 1 (by decide) (by decide)]
      exact hL.1.2.2.1
    · rw [up1_s, pk_us, rmv_c]
    · rw [up1_n (by decide), k1 1 (by decide), hro _ (by omega) (by omega)]
      exact hL.2.1 k hk
    · rw [hro 0 (by decide) (by decide)] at hw'
      have := hb.1
      have hlen := hb.2.2.2.1 w' hw'
      rw [up1_n (by decide), ← hL2, up1_s, pk_un (by omega), hro _ (by omega) (by omega), hL.2.2.1 w' hw']
      congr 1
      exact enc_congr (fun i hi => by
        unfold lc
        rw [hro _ (by omega) (by omega)])
    · rw [hro 1 (by decide) (by decide)] at hn
      have := hb.2.1
      have hlen := hb.2.2.2.2.1 n hn
      rw [up1_n (by decide), ← hL2, up1_s, pk_un (by omega), hro _ (by omega) (by omega), hL.2.2.2.1 n hn]
      congr 1
      exact enc_congr (fun i hi => by
        unfold lc
        rw [hro _ (by omega) (by omega)])
    · rw [rmv_c] at he
      obtain ⟨q1, q2⟩ := rmv_enc (w := v / 3 % a 2) (by decide) he hl4
      have e0 : e = 0 := by omega
      subst e0
      rw [up1_n (by decide), ← hL2, up1_s, pk_us, q2]
      by_cases y : v / 3 % a 2 = 0
      · rw [if_pos y, if_neg (by omega)]
        exact hL.2.2.2.2 1 (by omega)
      · rw [if_neg y, if_pos (by omega)]
        exact hL.2.2.2.2 0 (by omega)
end AD
