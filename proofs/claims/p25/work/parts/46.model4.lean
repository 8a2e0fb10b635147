section MM4
variable {M : kS} {a : kA} {N : Nat}
theorem eog_lt (hw : WF a) {r : Nat} (hr : r < sF a) : eog a r < sF a := by
  obtain ⟨w0, w1, w2, w3, w4, w5, w6, w7, wl, wp, wn, we⟩ := hw
  unfold eog
  by_cases y : r / a 5 + 1 < sF a / a 5
  · rw [if_pos y]
    have h1 := Nat.mul_le_mul_right (a 5) (Nat.le_of_lt y)
    have h2 := Nat.div_mul_le_self (sF a) (a 5)
    rw [Nat.succ_mul] at h1
    omega
  · rw [if_neg y]
    omega
def bw1 (a : kA) (m st f : Nat) : Nat := if m = 1 then (fw a f + st - 1) / st * st else fw a f
theorem bw1_le (hw : WF a) {m st f : Nat} (hst : 1 ≤ st ∧ st ≤ 50) (hf : f < sF a) : bw1 a m st f ≤ 148 := by
  have h1 := fw_le hw hf
  have h2 := Nat.div_mul_le_self (fw a f + st - 1) st
  unfold bw1
  split <;> omega
theorem m_bars1 (h : SM M a) (hw : WF a) {m st : Nat} (hm : m ≤ 3) (hst : 1 ≤ st ∧ st ≤ 50) (hF : M 0 9 = nI (sF a)) (hN : 3000 ≤ N) (kont : kS → Option kS) : ∃ M', lp_X9_bars_17 N (nI m) (nI st) kont N (nI 0) M = kont M' ∧ (∀ j, j ≠ 4 → j ≠ 5 → M' j = M j) ∧ ∀ f, f < sF a → M' 4 f = nI (fw a f) ∧ M' 5 f = nI (bw1 a m st f) := by
  obtain ⟨w0, w1, w2, w3, w4, w5, w6, w7, wl, wp, wn, we⟩ := id hw
  have hle := sF_le hw
  obtain ⟨C, n, ⟨hC, hf⟩, e⟩ := lpN (fun n i (x : kS) => lp_X9_bars_17 N (nI m) (nI st) kont n (nI i) x) (fun f C => (∀ j, j ≠ 4 → j ≠ 5 → C j = M j) ∧ ∀ g, g < f → C 4 g = nI (fw a g) ∧ C 5 g = nI (bw1 a m st g)) (sF a) (fun n f C hf hI => by
    obtain ⟨hC, h45⟩ := hI
    have hSC : SM C a := fun i hi => by rw [hC 1 (by decide) (by decide)]; exact h i hi
    have e09 : C 0 9 = nI (sF a) := by rw [hC 0 (by decide) (by decide)]; exact hF
    have hq := fq hf
    have hr := fr (a := a) f
    have bf := fw_le hw hf
    have b1 := (wn _ hq).1.2
    refine ⟨up1 (up1 C 4 (upd (C 4) f (nI (fw a f)))) 5 (upd (C 5) f (nI (bw1 a m st f))), ⟨fun j h4 h5 => by rw [up1_n h5, up1_n h4]; exact hC j h4 h5, fun g hg => ?_⟩, ?_⟩
    · rw [up1_n (by decide), up1_s, up1_s]
      by_cases z : g = f
      · subst z
        rw [pk_us, pk_us]
        exact ⟨rfl, rfl⟩
      · rw [pk_un z, pk_un z]
        exact h45 g (by omega)
    · show lp_X9_bars_17 N (nI m) (nI st) kont (n + 1) (nI f) C = lp_X9_bars_17 N (nI m) (nI st) kont n (nI (f + 1)) _
      have hrest : jn (up1 C 4 (upd (C 4) f (nI (fw a f)))) (fun C39 : kS => jn (fun (t40 : Int32) => gIn (nI f) 40 (jn (up1 C39 5 (upd (C39 5) ((nI f).toNatClampNeg) t40)) (fun C43 : kS => lp_X9_bars_17 N (nI m) (nI st) kont n (nI f + 1) C43))) (fun j109_40 => if (nI m) = 1 then gIn (nI f) 40 (gNz (nI st) (j109_40 (((((C39 4 (nI f).toNatClampNeg) + (nI st)) - 1) / (nI st)) * (nI st)))) else gIn (nI f) 40 (j109_40 (C39 4 (nI f).toNatClampNeg)))) = lp_X9_bars_17 N (nI m) (nI st) kont n (nI (f + 1)) (up1 (up1 C 4 (upd (C 4) f (nI (fw a f)))) 5 (upd (C 5) f (nI (bw1 a m st f)))) := by
        simp (disch := omega) only [jn, q_cl, up1_s, pk_us, q_gIn, i_1, q_eq]
        unfold bw1
        by_cases z : m = 1
        · simp (disch := omega) only [z, if_true, q_nz, nI_add, q_sub, q_div, pk_mul, up1_n]
        · simp (disch := omega) only [z, if_false, nI_add, up1_n]
      rw [lp_X9_bars_17]
      simp (disch := omega) only [e09, q_le, if_neg, m_each hSC, ob, q_nz, q_rem]
      simp (disch := omega) only [q_div, i_554, i_9, pk_mul, nI_add]
      rw [m_widthAt hSC wl (p := 554 + 9 * (f / (a 2 + 1))) (by omega) (wn _ hq).2 hN]
      simp (disch := omega) only [ob, q_gIn, q_cl, i_0]
      rw [jn]
      by_cases z : f % (a 2 + 1) = 0
      · have ef : wd a (554 + 9 * (f / (a 2 + 1))) = fw a f := by unfold fw; rw [if_pos z]; rfl
        rw [z, if_pos rfl, ef]
        refine Eq.trans ?_ hrest
        simp (disch := omega) only [q_gIn, q_cl, q_nz]
      · have c1 := we (f % (a 2 + 1) - 1) (by omega)
        have ef : wd a (554 + 9 * (f / (a 2 + 1))) + wd a (feA a f) = fw a f := by unfold fw; rw [if_neg z]; rfl
        have hz : ¬ nI (f % (a 2 + 1)) = nI 0 := fun e => z ((nI_eq (by omega) (by omega)).mp e)
        rw [if_neg hz, m_endingAt hSC w2 (by omega) z, ob, m_widthAt hSC wl (p := feA a f) (by have := c1.1.2; unfold feA; omega) c1.2 hN, ob, nI_add, ef]
        refine Eq.trans ?_ hrest
        simp (disch := omega) only [q_gIn, q_cl, q_nz]) (N := N) 0 M (Nat.zero_le _) (by omega) ⟨fun j _ _ => rfl, fun g hg => absurd hg (Nat.not_lt_zero g)⟩
  refine ⟨C, ?_, hC, hf⟩
  refine e.trans ?_
  show lp_X9_bars_17 N (nI m) (nI st) kont (n + 1) (nI (sF a)) C = kont C
  rw [lp_X9_bars_17]
  have e09 : C 0 9 = nI (sF a) := by rw [hC 0 (by decide) (by decide)]; exact hF
  simp (disch := omega) only [e09, q_le, Nat.le_refl, if_true]
def ttl (a : kA) (m k : Nat) : Nat := if m = 2 then eog a k else sF a - 1
theorem m_bars2 (h : SM M a) (hw : WF a) {m : Nat} (hm : m ≤ 3) (hF : M 0 9 = nI (sF a)) (h4 : ∀ f, f < sF a → M 4 f = nI (fw a f)) {S : Nat → Nat} (hS : Srt a S (sF a)) (h6 : ∀ i, i < sF a → M 6 i = nI (S i)) (hN : 3000 ≤ N) (kont : kS → Option kS) : ∃ M', lp_X9_bars_127 N (nI m) kont N (nI 0) M = kont M' ∧ (∀ j, j ≠ 5 → M' j = M j) ∧ ∀ f, f < sF a → M' 5 f = nI (fw a (srt a (ttl a m (rk a f)))) := by
  obtain ⟨w0, w1, w2, w3, w4, w5, w6, w7, wl, wp, wn, we⟩ := id hw
  have hle := sF_le hw
  have ht : ∀ k, k < sF a → ttl a m k < sF a := fun k hk => by
    unfold ttl
    have := eog_lt hw hk
    split <;> omega
  obtain ⟨C, n, ⟨hC, hf⟩, e⟩ := lpN (fun n i (x : kS) => lp_X9_bars_127 N (nI m) kont n (nI i) x) (fun k C => (∀ j, j ≠ 5 → C j = M j) ∧ ∀ i, i < k → C 5 (S i) = nI (fw a (S (ttl a m i)))) (sF a) (fun n k C hk hI => by
    obtain ⟨hC, h5⟩ := hI
    have hSC : SM C a := fun i hi => by rw [hC 1 (by decide)]; exact h i hi
    have e09 : C 0 9 = nI (sF a) := by rw [hC 0 (by decide)]; exact hF
    have e4 : C 4 = M 4 := hC 4 (by decide)
    have e6 : C 6 = M 6 := hC 6 (by decide)
    have t1 := ht k hk
    have s1 := hS.1 k hk
    have s2 := hS.1 _ t1
    refine ⟨up1 C 5 (upd (C 5) (S k) (nI (fw a (S (ttl a m k))))), ⟨fun j hj => by rw [up1_n hj]; exact hC j hj, fun i hi => ?_⟩, ?_⟩
    · rw [up1_s]
      by_cases z : i = k
      · subst z
        rw [pk_us]
      · rw [pk_un (hS.ne i k (by omega) hk)]
        exact h5 i (by omega)
    · show lp_X9_bars_127 N (nI m) kont (n + 1) (nI k) C = lp_X9_bars_127 N (nI m) kont n (nI (k + 1)) _
      have hrest : gIn (nI (ttl a m k)) 40 (gIn (C 6 (nI (ttl a m k)).toNatClampNeg) 40 (gIn (C 6 (nI k).toNatClampNeg) 40 (jn (up1 C 5 (upd (C 5) ((C 6 (nI k).toNatClampNeg).toNatClampNeg) (C 4 (C 6 (nI (ttl a m k)).toNatClampNeg).toNatClampNeg))) (fun C21 : kS => lp_X9_bars_127 N (nI m) kont n (nI k + 1) C21)))) = lp_X9_bars_127 N (nI m) kont n (nI (k + 1)) (up1 C 5 (upd (C 5) (S k) (nI (fw a (S (ttl a m k)))))) := by
        simp (disch := omega) only [jn, q_cl, e6, h6 k, h6 (ttl a m k), e4, h4 (S (ttl a m k)), q_gIn, i_1, nI_add]
      rw [lp_X9_bars_127]
      simp (disch := omega) only [e09, q_le, if_neg, q_gIn, jn, i_1, i_2, q_eq, q_sub, m_endOfGroup hSC hw e09 hk]
      refine Eq.trans ?_ hrest
      unfold ttl
      by_cases z : m = 2
      · rw [if_pos z, if_pos z]
        simp (disch := omega) only [ob, jn, i_1]
      · rw [if_neg z, if_neg z]
        simp (disch := omega) only [jn, i_1, q_gIn]) (N := N) 0 M (Nat.zero_le _) (by omega) ⟨fun j _ => rfl, fun i hi => absurd hi (Nat.not_lt_zero i)⟩
  refine ⟨C, ?_, hC, fun f hff => ?_⟩
  · refine e.trans ?_
    show lp_X9_bars_127 N (nI m) kont (n + 1) (nI (sF a)) C = kont C
    rw [lp_X9_bars_127]
    have e09 : C 0 9 = nI (sF a) := by rw [hC 0 (by decide)]; exact hF
    simp (disch := omega) only [e09, q_le, Nat.le_refl, if_true]
  · have hr := rk_lt hff
    have e1 := hS.srt hr
    rw [srt_uniq hff rfl] at e1
    have h1 := hf (rk a f) hr
    rw [← e1] at h1
    rw [h1, hS.srt (ht _ hr)]
theorem m_bars (h : SM M a) (hw : WF a) {m st : Nat} (hm : m ≤ 3) (hst : 1 ≤ st ∧ st ≤ 50) (hN : 3000 ≤ N) : ∃ M', f_X9_bars N M (nI m) (nI st) = some M' ∧ AgM M M' ∧ M' 0 9 = nI (sF a) ∧ (∀ f, f < sF a → M' 4 f = nI (fw a f)) ∧ ∀ f, f < sF a → M' 5 f = nI (bw a m st f) := by
  have hle := sF_le hw
  unfold f_X9_bars
  simp (disch := omega) only [i_1, i_0, q_gIn, m_each h, ob, q_cl, h _, pk_mul]
  simp only [jn]
  have hS4 : SM (up1 M 0 (upd (M 0) 9 (nI (a 1 * (a 2 + 1))))) a := fun i hi => by rw [up1_n (by decide)]; exact h i hi
  have hF4 : (up1 M 0 (upd (M 0) 9 (nI (a 1 * (a 2 + 1))))) 0 9 = nI (sF a) := by rw [up1_s, pk_us]; rfl
  have hA4 : AgM M (up1 M 0 (upd (M 0) 9 (nI (a 1 * (a 2 + 1))))) := ⟨up1_n (by decide), up1_n (by decide), up1_n (by decide), by rw [up1_s, pk_un (by decide)], by rw [up1_s, pk_un (by decide)], by rw [up1_s, pk_un (by decide)]⟩
  obtain ⟨M1, e1, hC1, h45⟩ := m_bars1 hS4 hw hm hst hF4 hN (fun C5 => if nI m ≤ nI 1 then some C5 else (f_X9_sorts N C5).bind fun C9 => lp_X9_bars_127 N (nI m) (fun C10 => some C10) N (nI 0) C9)
  rw [e1]
  have hA1 : AgM M M1 := hA4.tr ⟨hC1 1 (by decide) (by decide), hC1 2 (by decide) (by decide), hC1 3 (by decide) (by decide), by rw [hC1 0 (by decide) (by decide)], by rw [hC1 0 (by decide) (by decide)], by rw [hC1 0 (by decide) (by decide)]⟩
  have hF1 : M1 0 9 = nI (sF a) := by rw [hC1 0 (by decide) (by decide)]; exact hF4
  by_cases z : m ≤ 1
  · refine ⟨M1, ?_, hA1, hF1, fun f hf => (h45 f hf).1, fun f hf => ?_⟩
    · show (if nI m ≤ nI 1 then some M1 else _) = some M1
      simp (disch := omega) only [q_le, z, if_true]
    · rw [(h45 f hf).2]
      unfold bw1 bw
      by_cases y : m = 1
      · rw [if_pos y, if_pos y]
      · rw [if_neg y, if_neg y, if_neg (by omega), if_neg (by omega)]
  · have hS1 : SM M1 a := hA1.sm h
    obtain ⟨M2, e2, hC2, S, hS, h6⟩ := m_sorts (N := N) hF1 hle (fun f hf => (h45 f hf).1) (fun f hf => by have := fw_le hw hf; omega) hN
    have hA2 : AgM M1 M2 := ⟨hC2 1 (by decide), hC2 2 (by decide), hC2 3 (by decide), by rw [hC2 0 (by decide)], by rw [hC2 0 (by decide)], by rw [hC2 0 (by decide)]⟩
    have hF2 : M2 0 9 = nI (sF a) := by rw [hC2 0 (by decide)]; exact hF1
    obtain ⟨M3, e3, hC3, h5⟩ := m_bars2 (M := M2) (hA2.sm hS1) hw hm hF2 (fun f hf => by rw [hC2 4 (by decide)]; exact (h45 f hf).1) hS h6 hN (fun C10 => some C10)
    have hA3 : AgM M2 M3 := ⟨hC3 1 (by decide), hC3 2 (by decide), hC3 3 (by decide), by rw [hC3 0 (by decide)], by rw [hC3 0 (by decide)], by rw [hC3 0 (by decide)]⟩
    refine ⟨M3, ?_, (hA1.tr hA2).tr hA3, by rw [hC3 0 (by decide)]; exact hF2, fun f hf => by rw [hC3 4 (by decide), hC2 4 (by decide)]; exact (h45 f hf).1, fun f hf => ?_⟩
    · show (if nI m ≤ nI 1 then some M1 else (f_X9_sorts N M1).bind fun C9 => lp_X9_bars_127 N (nI m) (fun C10 => some C10) N (nI 0) C9) = some M3
      simp (disch := omega) only [q_le, z, if_false, e2, ob, e3]
    · rw [h5 f hf]
      have z1 : ¬ m = 1 := by omega
      unfold bw ttl
      by_cases y : m = 2
      · simp only [z1, y, if_false, if_true]
        simp
      · have y3 : m = 3 := by omega
        simp only [y3]
        simp
end MM4
