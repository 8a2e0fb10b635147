/-! ===== the law's page, and every act ===== -/
section AP
variable {C M L : kS} {a : kA} {N t v r : Nat} {c : Nat → Nat} {z : Int32}
theorem A_page (hR : RA C M a t c) (hb : LB a) (hL : LR L a) (hv : v < 10000000) (h1 : f_L_low N (z >>> (nI 5 &&& 31)) 10000000 = some (nI v)) (h2 : f_L_low N z 18 = some (nI r)) (hr : r < 18) (hr2 : r < 3) (hN : 3000 ≤ N) : XQ (f_L_acts N (C, L) z) := by
  obtain ⟨C1, M1, e1, hR1⟩ := E_clear (N := N) hR
  have ht := hR.tx.1
  unfold f_L_acts
  rw [i_5, h1, ob]
  dsimp only
  rw [e1, ob, jn_eq]
  dsimp only
  simp only [i_0, i_1, i_2, i_3, i_4, i_5, i_6, i_7, i_8, i_9, i_10, i_11, i_12]
  refine XQ.of (jp1 (x := nI 1) (fun j => if_neg (nI_pos (by omega)))) ?_
  try dsimp only
  rw [h2, ob, jn_eq, jn_eq, jn_eq, jn_eq, sel3 hr2]
  have hw := hR.rc.1
  have c5 : (nI 5).toNatClampNeg = 5 := q_cl (by decide)
  have g5' : ∀ x : Option (Int32 × (kS × kS)), gIn (nI 5) 8 x = x := fun x => q_gIn (by decide) (by decide)
  have h9 : nI v - nI v / nI 9 * nI 9 = nI (v % 9) := q_rem (by omega) (by decide) (by decide)
  have hm := Nat.mod_lt v (show 0 < 9 by decide)
  rw [q_nz (by decide) (by decide)]
  simp only [g5', c5, h9]
  rw [jn_eq, jn_eq]
  obtain ⟨C2, M2, L2, c2, t2, e2, hR2, hT, ⟨u1, u2, u3⟩, u4, u5⟩ := f_111 (N := N) (C := C1) (L1 := up1 L 0 (upd (L 0) 5 (nI (v % 9)))) (g := v % 9) hw hb hL hR1 hv (by omega) (by rw [up1_s, pk_us]) (by rw [up1_s, pk_un (by decide)]) (by rw [up1_s, pk_un (by decide)]) (fun j _ => by rw [up1_n (by decide)]) _ hN
  refine XQ.of e2 ?_
  try dsimp only
  obtain ⟨C3, M3, e3, hR3⟩ := E_page (N := N) hR2 (TI_flt hT) hN
  refine XQ.of (jp2 (x := nI 1) (y := (C3, L2)) (fun j => ?_)) ?_
  · rw [if_neg (by decide), e3, ob, jn_eq]
    dsimp only
    rw [if_pos (by rw [u4 0 (by decide), up1_s, pk_us, u2])]
  have hlc : ∀ p, 138 ≤ p → lc (pgG 0 34 13 (un a 0 0) c2 t2) p = lc a p := fun p hp => lc_cg (fun j hj => u3 j (by omega) (by omega))
  refine XQ.fin ⟨M3, _, _, _, hR3, ⟨by rw [u2]; omega, by rw [u3 1 (by decide) (by decide)]; exact hb.2.1, by rw [u3 2 (by decide) (by decide)]; exact hb.2.2.1, fun w hw => ?_, fun k hk => ?_, fun e he => ?_⟩, ?_⟩
  · rw [u2] at hw
    exact (u1 w hw).1
  · rw [u3 1 (by decide) (by decide)] at hk
    rw [u3 _ (by omega) (by omega)]
    exact hb.2.2.2.2.1 k hk
  · rw [u3 2 (by decide) (by decide)] at he
    rw [u3 _ (by omega) (by omega)]
    exact hb.2.2.2.2.2 e he
  refine LR.mk (fun i hi => ?_) ?_ ?_ ?_ (fun k hk => ?_) (fun w' hw' => ?_) (fun k hk => ?_) (fun e he => ?_)
  · rw [u4 0 (by decide), up1_s, pk_un (by omega), u3 _ (by omega) (by omega)]
    exact hL.s hi
  · rw [u4 0 (by decide), up1_s, pk_us, u2]
  · rw [u4 0 (by decide), up1_s, pk_un (by omega), u3 1 (by decide) (by decide)]
    exact hL.1.2.2.1
  · rw [u4 0 (by decide), up1_s, pk_un (by omega), u3 2 (by decide) (by decide)]
    exact hL.1.2.2.2
  · rw [u4 1 (by decide), up1_n (by decide), u3 _ (by omega) (by omega)]
    exact hL.2.1 k hk
  · rw [u2] at hw'
    exact (u1 w' hw').2
  · rw [u3 1 (by decide) (by decide)] at hk
    rw [u5 _ (by omega), hlc _ (by omega), u3 _ (by omega) (by omega)]
    exact hL.2.2.2.1 k hk
  · rw [u3 2 (by decide) (by decide)] at he
    rw [u5 _ (by omega), hlc _ (by omega), u3 _ (by omega) (by omega)]
    exact hL.2.2.2.2 e he
theorem f_acts (h : RW C L) (z : Int32) (hN : 3000 ≤ N) : XQ (f_L_acts N (C, L) z) := by
  obtain ⟨M, a, t, c, hR, hb, hL⟩ := h
  obtain ⟨v, hv, h1⟩ := f_low (N := N) (z >>> (nI 5 &&& 31)) (n := 10000000) (by decide) (by decide)
  obtain ⟨r, hr, h2⟩ := f_low (N := N) z (n := 18) (by decide) (by decide)
  rw [show nI 10000000 = (10000000 : Int32) by decide] at h1
  rw [show nI 18 = (18 : Int32) by decide] at h2
  rcases (show r < 3 ∨ (3 ≤ r ∧ r < 7) ∨ (7 ≤ r ∧ r < 9) ∨ r = 9 ∨ r = 10 ∨ (11 ≤ r ∧ r < 13) ∨ 13 ≤ r by omega) with q | q | q | q | q | q | q
  · exact A_page hR hb hL hv h1 h2 hr q hN
  · exact A_name hR hb hL hv h1 h2 hr q.1 q.2 hN
  · exact A_end hR hb hL hv h1 h2 hr q.1 q.2 hN
  · exact A_dropN hR hb hL hv h1 h2 hr q hN
  · exact A_dropE hR hb hL hv h1 h2 hr q hN
  · exact A_widen hR hb hL hv h1 h2 hr q.1 q.2 hN
  · exact A_set hR hb hL hv h1 h2 hr q hN
end AP
