/-! ===== the law's calls (printed by wip/whole/gen_law.py) ===== -/
section LC
variable {g : kG} {cI cS : ClassId} {A : Nat → Prop} {ad am : Nat → Nat} {LV GV b L : Nat} {xs : Nat → Int32} {C M : kS} {i : Nat}
theorem law_0 (Y : Lx g cI cS A ad am LV GV b L xs) (hL : L ≤ 2048) (hi : 4 * i + 4 ≤ L) (hR : Rl C M) (kk : ∀ C1 M1 : kS, Rl C1 M1 → LJ g cI cS ad am b C1 M1 682 i []) : LJ g cI cS ad am b C M 136 i [] := by
  obtain ⟨X, hA, hI, hZ, -⟩ := id Y
  obtain ⟨r, C1, M1, e1, e2, hR1⟩ := K_type (N := 3000) hR (xs (4 * i + 1))
  refine j_aload_n (pc := 136) X dL_law_136 rfl ?_
  refine l_arg (pc := 137) Y hL 1 (by omega) (by decide) dL_law_137 dL_law_138 dL_law_139 dL_law_140 dL_law_141 ?_
  refine l_cW (pc := 142) X hA hI (c_X8_type hI.1 3000 C _ e1) gL_law_X8_type rfl ⟨rfl, rfl⟩ rfl hd_X8_type ⟨Nat.le_of_ble_eq_true rfl, Nat.le_of_ble_eq_true rfl⟩ rfl (Nat.le_of_ble_eq_true rfl) rfl dL_law_142 ?_
  refine j_aload_n (pc := 145) X dL_law_145 rfl ?_
  refine l_arg (pc := 146) Y hL 1 (by omega) (by decide) dL_law_146 dL_law_147 dL_law_148 dL_law_149 dL_law_150 ?_
  refine l_mW (pc := 151) X hA hI (c_X9_type hI.2.1 3000 M _ e2) gL_law_X9_type rfl ⟨rfl, rfl⟩ rfl hd_X9_type ⟨Nat.le_of_ble_eq_true rfl, Nat.le_of_ble_eq_true rfl⟩ rfl (Nat.le_of_ble_eq_true rfl) rfl dL_law_151 ?_
  exact j_icmp_eq (pc := 154) (tgt := 682) X dL_law_154 (by decide) (fun _ => kk _ _ hR1) (fun h => absurd rfl h)
theorem law_1 (Y : Lx g cI cS A ad am LV GV b L xs) (hL : L ≤ 2048) (hi : 4 * i + 4 ≤ L) (hR : Rl C M) (kk : ∀ C1 M1 : kS, Rl C1 M1 → LJ g cI cS ad am b C1 M1 682 i []) : LJ g cI cS ad am b C M 159 i [] := by
  obtain ⟨X, hA, hI, hZ, -⟩ := id Y
  obtain ⟨r, C1, M1, e1, e2, hR1⟩ := K_clear (N := 3000) hR
  refine j_aload_n (pc := 159) X dL_law_159 rfl ?_
  refine l_cW (pc := 160) X hA hI (c_X8_clearText hI.1 3000 C e1) gL_law_X8_clearText rfl ⟨rfl, rfl⟩ rfl hd_X8_clearText ⟨Nat.le_of_ble_eq_true rfl, Nat.le_of_ble_eq_true rfl⟩ rfl (Nat.le_of_ble_eq_true rfl) rfl dL_law_160 ?_
  refine j_aload_n (pc := 163) X dL_law_163 rfl ?_
  refine l_mW (pc := 164) X hA hI (c_X9_clearText hI.2.1 3000 M e2) gL_law_X9_clearText rfl ⟨rfl, rfl⟩ rfl hd_X9_clearText ⟨Nat.le_of_ble_eq_true rfl, Nat.le_of_ble_eq_true rfl⟩ rfl (Nat.le_of_ble_eq_true rfl) rfl dL_law_164 ?_
  exact j_icmp_eq (pc := 167) (tgt := 682) X dL_law_167 (by decide) (fun _ => kk _ _ hR1) (fun h => absurd rfl h)
theorem law_2 (Y : Lx g cI cS A ad am LV GV b L xs) (hL : L ≤ 2048) (hi : 4 * i + 4 ≤ L) (hR : Rl C M) (kk : ∀ C1 M1 : kS, Rl C1 M1 → LJ g cI cS ad am b C1 M1 682 i []) : LJ g cI cS ad am b C M 172 i [] := by
  obtain ⟨X, hA, hI, hZ, -⟩ := id Y
  obtain ⟨r, M1, e1, e2, hR1⟩ := K_fault (N := 3000) hR (xs (4 * i + 1)) (Nat.le_refl 3000)
  refine j_aload_n (pc := 172) X dL_law_172 rfl ?_
  refine l_arg (pc := 173) Y hL 1 (by omega) (by decide) dL_law_173 dL_law_174 dL_law_175 dL_law_176 dL_law_177 ?_
  refine l_cI (pc := 178) X (c_X8_fault 3000 C _ e1) gL_law_X8_fault rfl ⟨rfl, rfl⟩ rfl hd_X8_fault ⟨Nat.le_of_ble_eq_true rfl, Nat.le_of_ble_eq_true rfl⟩ rfl (Nat.le_of_ble_eq_true rfl) rfl dL_law_178 ?_
  refine j_aload_n (pc := 181) X dL_law_181 rfl ?_
  refine l_arg (pc := 182) Y hL 1 (by omega) (by decide) dL_law_182 dL_law_183 dL_law_184 dL_law_185 dL_law_186 ?_
  refine l_mW (pc := 187) X hA hI (c_X9_fault hI.2.1 3000 M _ e2) gL_law_X9_fault rfl ⟨rfl, rfl⟩ rfl hd_X9_fault ⟨Nat.le_of_ble_eq_true rfl, Nat.le_of_ble_eq_true rfl⟩ rfl (Nat.le_of_ble_eq_true rfl) rfl dL_law_187 ?_
  exact j_icmp_eq (pc := 190) (tgt := 682) X dL_law_190 (by decide) (fun _ => kk _ _ hR1) (fun h => absurd rfl h)
theorem law_3 (Y : Lx g cI cS A ad am LV GV b L xs) (hL : L ≤ 2048) (hi : 4 * i + 4 ≤ L) (hR : Rl C M) (kk : ∀ C1 M1 : kS, Rl C1 M1 → LJ g cI cS ad am b C1 M1 682 i []) : LJ g cI cS ad am b C M 195 i [] := by
  obtain ⟨X, hA, hI, hZ, -⟩ := id Y
  obtain ⟨r, C1, M1, e1, e2, hR1⟩ := K_page (N := 3000) hR (Nat.le_refl 3000)
  refine j_aload_n (pc := 195) X dL_law_195 rfl ?_
  refine l_cW (pc := 196) X hA hI (c_X8_page hI.1 3000 C e1) gL_law_X8_page rfl ⟨rfl, rfl⟩ rfl hd_X8_page ⟨Nat.le_of_ble_eq_true rfl, Nat.le_of_ble_eq_true rfl⟩ rfl (Nat.le_of_ble_eq_true rfl) rfl dL_law_196 ?_
  refine j_aload_n (pc := 199) X dL_law_199 rfl ?_
  refine l_mW (pc := 200) X hA hI (c_X9_page hI.2.1 3000 M e2) gL_law_X9_page rfl ⟨rfl, rfl⟩ rfl hd_X9_page ⟨Nat.le_of_ble_eq_true rfl, Nat.le_of_ble_eq_true rfl⟩ rfl (Nat.le_of_ble_eq_true rfl) rfl dL_law_200 ?_
  exact j_icmp_eq (pc := 203) (tgt := 682) X dL_law_203 (by decide) (fun _ => kk _ _ hR1) (fun h => absurd rfl h)
theorem law_4 (Y : Lx g cI cS A ad am LV GV b L xs) (hL : L ≤ 2048) (hi : 4 * i + 4 ≤ L) (hR : Rl C M) (kk : ∀ C1 M1 : kS, Rl C1 M1 → LJ g cI cS ad am b C1 M1 682 i []) : LJ g cI cS ad am b C M 208 i [] := by
  obtain ⟨X, hA, hI, hZ, -⟩ := id Y
  obtain ⟨r, C1, M1, e1, e2, hR1⟩ := K_name (N := 3000) hR (Nat.le_refl 3000)
  refine j_aload_n (pc := 208) X dL_law_208 rfl ?_
  refine l_cW (pc := 209) X hA hI (c_X8_name hI.1 3000 C e1) gL_law_X8_name rfl ⟨rfl, rfl⟩ rfl hd_X8_name ⟨Nat.le_of_ble_eq_true rfl, Nat.le_of_ble_eq_true rfl⟩ rfl (Nat.le_of_ble_eq_true rfl) rfl dL_law_209 ?_
  refine j_aload_n (pc := 212) X dL_law_212 rfl ?_
  refine l_mW (pc := 213) X hA hI (c_X9_name hI.2.1 3000 M e2) gL_law_X9_name rfl ⟨rfl, rfl⟩ rfl hd_X9_name ⟨Nat.le_of_ble_eq_true rfl, Nat.le_of_ble_eq_true rfl⟩ rfl (Nat.le_of_ble_eq_true rfl) rfl dL_law_213 ?_
  exact j_icmp_eq (pc := 216) (tgt := 682) X dL_law_216 (by decide) (fun _ => kk _ _ hR1) (fun h => absurd rfl h)
theorem law_5 (Y : Lx g cI cS A ad am LV GV b L xs) (hL : L ≤ 2048) (hi : 4 * i + 4 ≤ L) (hR : Rl C M) (kk : ∀ C1 M1 : kS, Rl C1 M1 → LJ g cI cS ad am b C1 M1 682 i []) : LJ g cI cS ad am b C M 221 i [] := by
  obtain ⟨X, hA, hI, hZ, -⟩ := id Y
  obtain ⟨r, C1, M1, e1, e2, hR1⟩ := K_ending (N := 3000) hR (Nat.le_refl 3000)
  refine j_aload_n (pc := 221) X dL_law_221 rfl ?_
  refine l_cW (pc := 222) X hA hI (c_X8_ending hI.1 3000 C e1) gL_law_X8_ending rfl ⟨rfl, rfl⟩ rfl hd_X8_ending ⟨Nat.le_of_ble_eq_true rfl, Nat.le_of_ble_eq_true rfl⟩ rfl (Nat.le_of_ble_eq_true rfl) rfl dL_law_222 ?_
  refine j_aload_n (pc := 225) X dL_law_225 rfl ?_
  refine l_mW (pc := 226) X hA hI (c_X9_ending hI.2.1 3000 M e2) gL_law_X9_ending rfl ⟨rfl, rfl⟩ rfl hd_X9_ending ⟨Nat.le_of_ble_eq_true rfl, Nat.le_of_ble_eq_true rfl⟩ rfl (Nat.le_of_ble_eq_true rfl) rfl dL_law_226 ?_
  exact j_icmp_eq (pc := 229) (tgt := 682) X dL_law_229 (by decide) (fun _ => kk _ _ hR1) (fun h => absurd rfl h)
theorem law_6 (Y : Lx g cI cS A ad am LV GV b L xs) (hL : L ≤ 2048) (hi : 4 * i + 4 ≤ L) (hR : Rl C M) (kk : ∀ C1 M1 : kS, Rl C1 M1 → LJ g cI cS ad am b C1 M1 682 i []) : LJ g cI cS ad am b C M 234 i [] := by
  obtain ⟨X, hA, hI, hZ, -⟩ := id Y
  obtain ⟨r, C1, M1, e1, e2, hR1⟩ := K_dropName (N := 3000) hR (xs (4 * i + 1)) (Nat.le_refl 3000)
  refine j_aload_n (pc := 234) X dL_law_234 rfl ?_
  refine l_arg (pc := 235) Y hL 1 (by omega) (by decide) dL_law_235 dL_law_236 dL_law_237 dL_law_238 dL_law_239 ?_
  refine l_cW (pc := 240) X hA hI (c_X8_dropName hI.1 3000 C _ e1) gL_law_X8_dropName rfl ⟨rfl, rfl⟩ rfl hd_X8_dropName ⟨Nat.le_of_ble_eq_true rfl, Nat.le_of_ble_eq_true rfl⟩ rfl (Nat.le_of_ble_eq_true rfl) rfl dL_law_240 ?_
  refine j_aload_n (pc := 243) X dL_law_243 rfl ?_
  refine l_arg (pc := 244) Y hL 1 (by omega) (by decide) dL_law_244 dL_law_245 dL_law_246 dL_law_247 dL_law_248 ?_
  refine l_mW (pc := 249) X hA hI (c_X9_dropName hI.2.1 3000 M _ e2) gL_law_X9_dropName rfl ⟨rfl, rfl⟩ rfl hd_X9_dropName ⟨Nat.le_of_ble_eq_true rfl, Nat.le_of_ble_eq_true rfl⟩ rfl (Nat.le_of_ble_eq_true rfl) rfl dL_law_249 ?_
  exact j_icmp_eq (pc := 252) (tgt := 682) X dL_law_252 (by decide) (fun _ => kk _ _ hR1) (fun h => absurd rfl h)
theorem law_7 (Y : Lx g cI cS A ad am LV GV b L xs) (hL : L ≤ 2048) (hi : 4 * i + 4 ≤ L) (hR : Rl C M) (kk : ∀ C1 M1 : kS, Rl C1 M1 → LJ g cI cS ad am b C1 M1 682 i []) : LJ g cI cS ad am b C M 257 i [] := by
  obtain ⟨X, hA, hI, hZ, -⟩ := id Y
  obtain ⟨r, C1, M1, e1, e2, hR1⟩ := K_dropEnding (N := 3000) hR (xs (4 * i + 1)) (Nat.le_refl 3000)
  refine j_aload_n (pc := 257) X dL_law_257 rfl ?_
  refine l_arg (pc := 258) Y hL 1 (by omega) (by decide) dL_law_258 dL_law_259 dL_law_260 dL_law_261 dL_law_262 ?_
  refine l_cW (pc := 263) X hA hI (c_X8_dropEnding hI.1 3000 C _ e1) gL_law_X8_dropEnding rfl ⟨rfl, rfl⟩ rfl hd_X8_dropEnding ⟨Nat.le_of_ble_eq_true rfl, Nat.le_of_ble_eq_true rfl⟩ rfl (Nat.le_of_ble_eq_true rfl) rfl dL_law_263 ?_
  refine j_aload_n (pc := 266) X dL_law_266 rfl ?_
  refine l_arg (pc := 267) Y hL 1 (by omega) (by decide) dL_law_267 dL_law_268 dL_law_269 dL_law_270 dL_law_271 ?_
  refine l_mW (pc := 272) X hA hI (c_X9_dropEnding hI.2.1 3000 M _ e2) gL_law_X9_dropEnding rfl ⟨rfl, rfl⟩ rfl hd_X9_dropEnding ⟨Nat.le_of_ble_eq_true rfl, Nat.le_of_ble_eq_true rfl⟩ rfl (Nat.le_of_ble_eq_true rfl) rfl dL_law_272 ?_
  exact j_icmp_eq (pc := 275) (tgt := 682) X dL_law_275 (by decide) (fun _ => kk _ _ hR1) (fun h => absurd rfl h)
theorem law_8 (Y : Lx g cI cS A ad am LV GV b L xs) (hL : L ≤ 2048) (hi : 4 * i + 4 ≤ L) (hR : Rl C M) (kk : ∀ C1 M1 : kS, Rl C1 M1 → LJ g cI cS ad am b C1 M1 682 i []) : LJ g cI cS ad am b C M 280 i [] := by
  obtain ⟨X, hA, hI, hZ, -⟩ := id Y
  obtain ⟨r, C1, M1, e1, e2, hR1⟩ := K_widen (N := 3000) hR (xs (4 * i + 1)) (xs (4 * i + 2)) (Nat.le_refl 3000)
  refine j_aload_n (pc := 280) X dL_law_280 rfl ?_
  refine l_arg (pc := 281) Y hL 1 (by omega) (by decide) dL_law_281 dL_law_282 dL_law_283 dL_law_284 dL_law_285 ?_
  refine l_arg (pc := 286) Y hL 2 (by omega) (by decide) dL_law_286 dL_law_287 dL_law_288 dL_law_289 dL_law_290 ?_
  refine l_cW (pc := 291) X hA hI (c_X8_widen hI.1 3000 C _ _ e1) gL_law_X8_widen rfl ⟨rfl, rfl⟩ rfl hd_X8_widen ⟨Nat.le_of_ble_eq_true rfl, Nat.le_of_ble_eq_true rfl⟩ rfl (Nat.le_of_ble_eq_true rfl) rfl dL_law_291 ?_
  refine j_aload_n (pc := 294) X dL_law_294 rfl ?_
  refine l_arg (pc := 295) Y hL 1 (by omega) (by decide) dL_law_295 dL_law_296 dL_law_297 dL_law_298 dL_law_299 ?_
  refine l_arg (pc := 300) Y hL 2 (by omega) (by decide) dL_law_300 dL_law_301 dL_law_302 dL_law_303 dL_law_304 ?_
  refine l_mW (pc := 305) X hA hI (c_X9_widen hI.2.1 3000 M _ _ e2) gL_law_X9_widen rfl ⟨rfl, rfl⟩ rfl hd_X9_widen ⟨Nat.le_of_ble_eq_true rfl, Nat.le_of_ble_eq_true rfl⟩ rfl (Nat.le_of_ble_eq_true rfl) rfl dL_law_305 ?_
  exact j_icmp_eq (pc := 308) (tgt := 682) X dL_law_308 (by decide) (fun _ => kk _ _ hR1) (fun h => absurd rfl h)
theorem law_9 (Y : Lx g cI cS A ad am LV GV b L xs) (hL : L ≤ 2048) (hi : 4 * i + 4 ≤ L) (hR : Rl C M) (kk : ∀ C1 M1 : kS, Rl C1 M1 → LJ g cI cS ad am b C1 M1 682 i []) : LJ g cI cS ad am b C M 313 i [] := by
  obtain ⟨X, hA, hI, hZ, -⟩ := id Y
  obtain ⟨r, C1, M1, e1, e2, hR1⟩ := K_set (N := 3000) hR (xs (4 * i + 1)) (xs (4 * i + 2)) (Nat.le_refl 3000)
  refine j_aload_n (pc := 313) X dL_law_313 rfl ?_
  refine l_arg (pc := 314) Y hL 1 (by omega) (by decide) dL_law_314 dL_law_315 dL_law_316 dL_law_317 dL_law_318 ?_
  refine l_arg (pc := 319) Y hL 2 (by omega) (by decide) dL_law_319 dL_law_320 dL_law_321 dL_law_322 dL_law_323 ?_
  refine l_cE (pc := 324) X hA hI hZ (c_X8_set hI.1 3000 C _ _ e1) gL_law_X8_set rfl ⟨rfl, rfl⟩ rfl hd_X8_set ⟨Nat.le_of_ble_eq_true rfl, Nat.le_of_ble_eq_true rfl⟩ rfl (Nat.le_of_ble_eq_true rfl) rfl dL_law_324 ?_
  refine j_aload_n (pc := 327) X dL_law_327 rfl ?_
  refine l_arg (pc := 328) Y hL 1 (by omega) (by decide) dL_law_328 dL_law_329 dL_law_330 dL_law_331 dL_law_332 ?_
  refine l_arg (pc := 333) Y hL 2 (by omega) (by decide) dL_law_333 dL_law_334 dL_law_335 dL_law_336 dL_law_337 ?_
  refine l_mW (pc := 338) X hA hI (c_X9_set hI.2.1 3000 M _ _ e2) gL_law_X9_set rfl ⟨rfl, rfl⟩ rfl hd_X9_set ⟨Nat.le_of_ble_eq_true rfl, Nat.le_of_ble_eq_true rfl⟩ rfl (Nat.le_of_ble_eq_true rfl) rfl dL_law_338 ?_
  exact j_icmp_eq (pc := 341) (tgt := 682) X dL_law_341 (by decide) (fun _ => kk _ _ hR1) (fun h => absurd rfl h)
theorem law_10 (Y : Lx g cI cS A ad am LV GV b L xs) (hL : L ≤ 2048) (hi : 4 * i + 4 ≤ L) (hR : Rl C M) (kk : ∀ C1 M1 : kS, Rl C1 M1 → LJ g cI cS ad am b C1 M1 682 i []) : LJ g cI cS ad am b C M 346 i [] := by
  obtain ⟨X, hA, hI, hZ, -⟩ := id Y
  obtain ⟨r, M1, e1, e2, hR1⟩ := K_count (N := 3000) hR (xs (4 * i + 1)) (Nat.le_refl 3000)
  refine j_aload_n (pc := 346) X dL_law_346 rfl ?_
  refine l_arg (pc := 347) Y hL 1 (by omega) (by decide) dL_law_347 dL_law_348 dL_law_349 dL_law_350 dL_law_351 ?_
  refine l_cI (pc := 352) X (c_X8_count 3000 C _ e1) gL_law_X8_count rfl ⟨rfl, rfl⟩ rfl hd_X8_count ⟨Nat.le_of_ble_eq_true rfl, Nat.le_of_ble_eq_true rfl⟩ rfl (Nat.le_of_ble_eq_true rfl) rfl dL_law_352 ?_
  refine j_aload_n (pc := 355) X dL_law_355 rfl ?_
  refine l_arg (pc := 356) Y hL 1 (by omega) (by decide) dL_law_356 dL_law_357 dL_law_358 dL_law_359 dL_law_360 ?_
  refine l_mW (pc := 361) X hA hI (c_X9_count hI.2.1 3000 M _ e2) gL_law_X9_count rfl ⟨rfl, rfl⟩ rfl hd_X9_count ⟨Nat.le_of_ble_eq_true rfl, Nat.le_of_ble_eq_true rfl⟩ rfl (Nat.le_of_ble_eq_true rfl) rfl dL_law_361 ?_
  exact j_icmp_eq (pc := 364) (tgt := 682) X dL_law_364 (by decide) (fun _ => kk _ _ hR1) (fun h => absurd rfl h)
theorem law_11 (Y : Lx g cI cS A ad am LV GV b L xs) (hL : L ≤ 2048) (hi : 4 * i + 4 ≤ L) (hR : Rl C M) (kk : ∀ C1 M1 : kS, Rl C1 M1 → LJ g cI cS ad am b C1 M1 682 i []) : LJ g cI cS ad am b C M 369 i [] := by
  obtain ⟨X, hA, hI, hZ, -⟩ := id Y
  obtain ⟨r, M1, e1, e2, hR1⟩ := K_word (N := 3000) hR (xs (4 * i + 1)) (xs (4 * i + 2)) (Nat.le_refl 3000)
  refine j_aload_n (pc := 369) X dL_law_369 rfl ?_
  refine l_arg (pc := 370) Y hL 1 (by omega) (by decide) dL_law_370 dL_law_371 dL_law_372 dL_law_373 dL_law_374 ?_
  refine l_arg (pc := 375) Y hL 2 (by omega) (by decide) dL_law_375 dL_law_376 dL_law_377 dL_law_378 dL_law_379 ?_
  refine l_cI (pc := 380) X (c_X8_word 3000 C _ _ e1) gL_law_X8_word rfl ⟨rfl, rfl⟩ rfl hd_X8_word ⟨Nat.le_of_ble_eq_true rfl, Nat.le_of_ble_eq_true rfl⟩ rfl (Nat.le_of_ble_eq_true rfl) rfl dL_law_380 ?_
  refine j_aload_n (pc := 383) X dL_law_383 rfl ?_
  refine l_arg (pc := 384) Y hL 1 (by omega) (by decide) dL_law_384 dL_law_385 dL_law_386 dL_law_387 dL_law_388 ?_
  refine l_arg (pc := 389) Y hL 2 (by omega) (by decide) dL_law_389 dL_law_390 dL_law_391 dL_law_392 dL_law_393 ?_
  refine l_mW (pc := 394) X hA hI (c_X9_word hI.2.1 3000 M _ _ e2) gL_law_X9_word rfl ⟨rfl, rfl⟩ rfl hd_X9_word ⟨Nat.le_of_ble_eq_true rfl, Nat.le_of_ble_eq_true rfl⟩ rfl (Nat.le_of_ble_eq_true rfl) rfl dL_law_394 ?_
  exact j_icmp_eq (pc := 397) (tgt := 682) X dL_law_397 (by decide) (fun _ => kk _ _ hR1) (fun h => absurd rfl h)
theorem law_12 (Y : Lx g cI cS A ad am LV GV b L xs) (hL : L ≤ 2048) (hi : 4 * i + 4 ≤ L) (hR : Rl C M) (kk : ∀ C1 M1 : kS, Rl C1 M1 → LJ g cI cS ad am b C1 M1 682 i []) : LJ g cI cS ad am b C M 402 i [] := by
  obtain ⟨X, hA, hI, hZ, -⟩ := id Y
  obtain ⟨r, M1, e1, e2, hR1⟩ := K_letter (N := 3000) hR (xs (4 * i + 1)) (xs (4 * i + 2)) (Nat.le_refl 3000)
  refine j_aload_n (pc := 402) X dL_law_402 rfl ?_
  refine l_arg (pc := 403) Y hL 1 (by omega) (by decide) dL_law_403 dL_law_404 dL_law_405 dL_law_406 dL_law_407 ?_
  refine l_arg (pc := 408) Y hL 2 (by omega) (by decide) dL_law_408 dL_law_409 dL_law_410 dL_law_411 dL_law_412 ?_
  refine l_cI (pc := 413) X (c_X8_letter 3000 C _ _ e1) gL_law_X8_letter rfl ⟨rfl, rfl⟩ rfl hd_X8_letter ⟨Nat.le_of_ble_eq_true rfl, Nat.le_of_ble_eq_true rfl⟩ rfl (Nat.le_of_ble_eq_true rfl) rfl dL_law_413 ?_
  refine j_aload_n (pc := 416) X dL_law_416 rfl ?_
  refine l_arg (pc := 417) Y hL 1 (by omega) (by decide) dL_law_417 dL_law_418 dL_law_419 dL_law_420 dL_law_421 ?_
  refine l_arg (pc := 422) Y hL 2 (by omega) (by decide) dL_law_422 dL_law_423 dL_law_424 dL_law_425 dL_law_426 ?_
  refine l_mW (pc := 427) X hA hI (c_X9_letter hI.2.1 3000 M _ _ e2) gL_law_X9_letter rfl ⟨rfl, rfl⟩ rfl hd_X9_letter ⟨Nat.le_of_ble_eq_true rfl, Nat.le_of_ble_eq_true rfl⟩ rfl (Nat.le_of_ble_eq_true rfl) rfl dL_law_427 ?_
  exact j_icmp_eq (pc := 430) (tgt := 682) X dL_law_430 (by decide) (fun _ => kk _ _ hR1) (fun h => absurd rfl h)
theorem law_13 (Y : Lx g cI cS A ad am LV GV b L xs) (hL : L ≤ 2048) (hi : 4 * i + 4 ≤ L) (hR : Rl C M) (kk : ∀ C1 M1 : kS, Rl C1 M1 → LJ g cI cS ad am b C1 M1 682 i []) : LJ g cI cS ad am b C M 435 i [] := by
  obtain ⟨X, hA, hI, hZ, -⟩ := id Y
  obtain ⟨r, M1, e1, e2, hR1⟩ := K_line (N := 3000) hR (xs (4 * i + 1)) (xs (4 * i + 2)) (Nat.le_refl 3000)
  refine j_aload_n (pc := 435) X dL_law_435 rfl ?_
  refine l_arg (pc := 436) Y hL 1 (by omega) (by decide) dL_law_436 dL_law_437 dL_law_438 dL_law_439 dL_law_440 ?_
  refine l_arg (pc := 441) Y hL 2 (by omega) (by decide) dL_law_441 dL_law_442 dL_law_443 dL_law_444 dL_law_445 ?_
  refine l_cI (pc := 446) X (c_X8_line 3000 C _ _ e1) gL_law_X8_line rfl ⟨rfl, rfl⟩ rfl hd_X8_line ⟨Nat.le_of_ble_eq_true rfl, Nat.le_of_ble_eq_true rfl⟩ rfl (Nat.le_of_ble_eq_true rfl) rfl dL_law_446 ?_
  refine j_aload_n (pc := 449) X dL_law_449 rfl ?_
  refine l_arg (pc := 450) Y hL 1 (by omega) (by decide) dL_law_450 dL_law_451 dL_law_452 dL_law_453 dL_law_454 ?_
  refine l_arg (pc := 455) Y hL 2 (by omega) (by decide) dL_law_455 dL_law_456 dL_law_457 dL_law_458 dL_law_459 ?_
  refine l_mW (pc := 460) X hA hI (c_X9_line hI.2.1 3000 M _ _ e2) gL_law_X9_line rfl ⟨rfl, rfl⟩ rfl hd_X9_line ⟨Nat.le_of_ble_eq_true rfl, Nat.le_of_ble_eq_true rfl⟩ rfl (Nat.le_of_ble_eq_true rfl) rfl dL_law_460 ?_
  exact j_icmp_eq (pc := 463) (tgt := 682) X dL_law_463 (by decide) (fun _ => kk _ _ hR1) (fun h => absurd rfl h)
theorem law_14 (Y : Lx g cI cS A ad am LV GV b L xs) (hL : L ≤ 2048) (hi : 4 * i + 4 ≤ L) (hR : Rl C M) (kk : ∀ C1 M1 : kS, Rl C1 M1 → LJ g cI cS ad am b C1 M1 682 i []) : LJ g cI cS ad am b C M 468 i [] := by
  obtain ⟨X, hA, hI, hZ, -⟩ := id Y
  obtain ⟨r, M1, e1, e2, hR1⟩ := K_again (N := 3000) hR (xs (4 * i + 1)) (Nat.le_refl 3000)
  refine j_aload_n (pc := 468) X dL_law_468 rfl ?_
  refine l_arg (pc := 469) Y hL 1 (by omega) (by decide) dL_law_469 dL_law_470 dL_law_471 dL_law_472 dL_law_473 ?_
  refine l_cI (pc := 474) X (c_X8_widthAgain 3000 C _ e1) gL_law_X8_widthAgain rfl ⟨rfl, rfl⟩ rfl hd_X8_widthAgain ⟨Nat.le_of_ble_eq_true rfl, Nat.le_of_ble_eq_true rfl⟩ rfl (Nat.le_of_ble_eq_true rfl) rfl dL_law_474 ?_
  refine j_aload_n (pc := 477) X dL_law_477 rfl ?_
  refine l_arg (pc := 478) Y hL 1 (by omega) (by decide) dL_law_478 dL_law_479 dL_law_480 dL_law_481 dL_law_482 ?_
  refine l_mW (pc := 483) X hA hI (c_X9_widthAgain hI.2.1 3000 M _ e2) gL_law_X9_widthAgain rfl ⟨rfl, rfl⟩ rfl hd_X9_widthAgain ⟨Nat.le_of_ble_eq_true rfl, Nat.le_of_ble_eq_true rfl⟩ rfl (Nat.le_of_ble_eq_true rfl) rfl dL_law_483 ?_
  exact j_icmp_eq (pc := 486) (tgt := 682) X dL_law_486 (by decide) (fun _ => kk _ _ hR1) (fun h => absurd rfl h)
theorem law_15 (Y : Lx g cI cS A ad am LV GV b L xs) (hL : L ≤ 2048) (hi : 4 * i + 4 ≤ L) (hR : Rl C M) (kk : ∀ C1 M1 : kS, Rl C1 M1 → LJ g cI cS ad am b C1 M1 682 i []) : LJ g cI cS ad am b C M 491 i [] := by
  obtain ⟨X, hA, hI, hZ, -⟩ := id Y
  obtain ⟨r, M1, e1, e2, hR1⟩ := K_form (N := 3000) hR (xs (4 * i + 1)) (xs (4 * i + 2)) (xs (4 * i + 3)) (Nat.le_refl 3000)
  refine j_aload_n (pc := 491) X dL_law_491 rfl ?_
  refine l_arg (pc := 492) Y hL 1 (by omega) (by decide) dL_law_492 dL_law_493 dL_law_494 dL_law_495 dL_law_496 ?_
  refine l_arg (pc := 497) Y hL 2 (by omega) (by decide) dL_law_497 dL_law_498 dL_law_499 dL_law_500 dL_law_501 ?_
  refine l_arg (pc := 502) Y hL 3 (by omega) (by decide) dL_law_502 dL_law_503 dL_law_504 dL_law_505 dL_law_506 ?_
  refine l_cI (pc := 507) X (c_X8_form 3000 C _ _ _ e1) gL_law_X8_form rfl ⟨rfl, rfl⟩ rfl hd_X8_form ⟨Nat.le_of_ble_eq_true rfl, Nat.le_of_ble_eq_true rfl⟩ rfl (Nat.le_of_ble_eq_true rfl) rfl dL_law_507 ?_
  refine j_aload_n (pc := 510) X dL_law_510 rfl ?_
  refine l_arg (pc := 511) Y hL 1 (by omega) (by decide) dL_law_511 dL_law_512 dL_law_513 dL_law_514 dL_law_515 ?_
  refine l_arg (pc := 516) Y hL 2 (by omega) (by decide) dL_law_516 dL_law_517 dL_law_518 dL_law_519 dL_law_520 ?_
  refine l_arg (pc := 521) Y hL 3 (by omega) (by decide) dL_law_521 dL_law_522 dL_law_523 dL_law_524 dL_law_525 ?_
  refine l_mW (pc := 526) X hA hI (c_X9_form hI.2.1 3000 M _ _ _ e2) gL_law_X9_form rfl ⟨rfl, rfl⟩ rfl hd_X9_form ⟨Nat.le_of_ble_eq_true rfl, Nat.le_of_ble_eq_true rfl⟩ rfl (Nat.le_of_ble_eq_true rfl) rfl dL_law_526 ?_
  exact j_icmp_eq (pc := 529) (tgt := 682) X dL_law_529 (by decide) (fun _ => kk _ _ hR1) (fun h => absurd rfl h)
theorem law_16 (Y : Lx g cI cS A ad am LV GV b L xs) (hL : L ≤ 2048) (hi : 4 * i + 4 ≤ L) (hR : Rl C M) (kk : ∀ C1 M1 : kS, Rl C1 M1 → LJ g cI cS ad am b C1 M1 682 i []) : LJ g cI cS ad am b C M 534 i [] := by
  obtain ⟨X, hA, hI, hZ, -⟩ := id Y
  obtain ⟨r, M1, e1, e2, hR1⟩ := K_under (N := 3000) hR (xs (4 * i + 1)) (Nat.le_refl 3000)
  refine j_aload_n (pc := 534) X dL_law_534 rfl ?_
  refine l_arg (pc := 535) Y hL 1 (by omega) (by decide) dL_law_535 dL_law_536 dL_law_537 dL_law_538 dL_law_539 ?_
  refine l_cI (pc := 540) X (c_X8_under 3000 C _ e1) gL_law_X8_under rfl ⟨rfl, rfl⟩ rfl hd_X8_under ⟨Nat.le_of_ble_eq_true rfl, Nat.le_of_ble_eq_true rfl⟩ rfl (Nat.le_of_ble_eq_true rfl) rfl dL_law_540 ?_
  refine j_aload_n (pc := 543) X dL_law_543 rfl ?_
  refine l_arg (pc := 544) Y hL 1 (by omega) (by decide) dL_law_544 dL_law_545 dL_law_546 dL_law_547 dL_law_548 ?_
  refine l_mW (pc := 549) X hA hI (c_X9_under hI.2.1 3000 M _ e2) gL_law_X9_under rfl ⟨rfl, rfl⟩ rfl hd_X9_under ⟨Nat.le_of_ble_eq_true rfl, Nat.le_of_ble_eq_true rfl⟩ rfl (Nat.le_of_ble_eq_true rfl) rfl dL_law_549 ?_
  exact j_icmp_eq (pc := 552) (tgt := 682) X dL_law_552 (by decide) (fun _ => kk _ _ hR1) (fun h => absurd rfl h)
theorem law_17 (Y : Lx g cI cS A ad am LV GV b L xs) (hL : L ≤ 2048) (hi : 4 * i + 4 ≤ L) (hR : Rl C M) (kk : ∀ C1 M1 : kS, Rl C1 M1 → LJ g cI cS ad am b C1 M1 682 i []) : LJ g cI cS ad am b C M 557 i [] := by
  obtain ⟨X, hA, hI, hZ, -⟩ := id Y
  obtain ⟨r, M1, e1, e2, hR1⟩ := K_guess (N := 3000) hR (xs (4 * i + 1)) (xs (4 * i + 2)) (xs (4 * i + 3)) (Nat.le_refl 3000)
  refine j_aload_n (pc := 557) X dL_law_557 rfl ?_
  refine l_arg (pc := 558) Y hL 1 (by omega) (by decide) dL_law_558 dL_law_559 dL_law_560 dL_law_561 dL_law_562 ?_
  refine l_arg (pc := 563) Y hL 2 (by omega) (by decide) dL_law_563 dL_law_564 dL_law_565 dL_law_566 dL_law_567 ?_
  refine l_arg (pc := 568) Y hL 3 (by omega) (by decide) dL_law_568 dL_law_569 dL_law_570 dL_law_571 dL_law_572 ?_
  refine l_cI (pc := 573) X (c_X8_guess 3000 C _ _ _ e1) gL_law_X8_guess rfl ⟨rfl, rfl⟩ rfl hd_X8_guess ⟨Nat.le_of_ble_eq_true rfl, Nat.le_of_ble_eq_true rfl⟩ rfl (Nat.le_of_ble_eq_true rfl) rfl dL_law_573 ?_
  refine j_aload_n (pc := 576) X dL_law_576 rfl ?_
  refine l_arg (pc := 577) Y hL 1 (by omega) (by decide) dL_law_577 dL_law_578 dL_law_579 dL_law_580 dL_law_581 ?_
  refine l_arg (pc := 582) Y hL 2 (by omega) (by decide) dL_law_582 dL_law_583 dL_law_584 dL_law_585 dL_law_586 ?_
  refine l_arg (pc := 587) Y hL 3 (by omega) (by decide) dL_law_587 dL_law_588 dL_law_589 dL_law_590 dL_law_591 ?_
  refine l_mW (pc := 592) X hA hI (c_X9_guess hI.2.1 3000 M _ _ _ e2) gL_law_X9_guess rfl ⟨rfl, rfl⟩ rfl hd_X9_guess ⟨Nat.le_of_ble_eq_true rfl, Nat.le_of_ble_eq_true rfl⟩ rfl (Nat.le_of_ble_eq_true rfl) rfl dL_law_592 ?_
  exact j_icmp_eq (pc := 595) (tgt := 682) X dL_law_595 (by decide) (fun _ => kk _ _ hR1) (fun h => absurd rfl h)
theorem law_18 (Y : Lx g cI cS A ad am LV GV b L xs) (hL : L ≤ 2048) (hi : 4 * i + 4 ≤ L) (hR : Rl C M) (kk : ∀ C1 M1 : kS, Rl C1 M1 → LJ g cI cS ad am b C1 M1 682 i []) : LJ g cI cS ad am b C M 600 i [] := by
  obtain ⟨X, hA, hI, hZ, -⟩ := id Y
  obtain ⟨r, M1, e1, e2, hR1⟩ := K_same (N := 3000) hR (xs (4 * i + 1)) (xs (4 * i + 2)) (Nat.le_refl 3000)
  refine j_aload_n (pc := 600) X dL_law_600 rfl ?_
  refine l_arg (pc := 601) Y hL 1 (by omega) (by decide) dL_law_601 dL_law_602 dL_law_603 dL_law_604 dL_law_605 ?_
  refine l_arg (pc := 606) Y hL 2 (by omega) (by decide) dL_law_606 dL_law_607 dL_law_608 dL_law_609 dL_law_610 ?_
  refine l_cI (pc := 611) X (c_X8_same 3000 C _ _ e1) gL_law_X8_same rfl ⟨rfl, rfl⟩ rfl hd_X8_same ⟨Nat.le_of_ble_eq_true rfl, Nat.le_of_ble_eq_true rfl⟩ rfl (Nat.le_of_ble_eq_true rfl) rfl dL_law_611 ?_
  refine j_aload_n (pc := 614) X dL_law_614 rfl ?_
  refine l_arg (pc := 615) Y hL 1 (by omega) (by decide) dL_law_615 dL_law_616 dL_law_617 dL_law_618 dL_law_619 ?_
  refine l_arg (pc := 620) Y hL 2 (by omega) (by decide) dL_law_620 dL_law_621 dL_law_622 dL_law_623 dL_law_624 ?_
  refine l_mW (pc := 625) X hA hI (c_X9_same hI.2.1 3000 M _ _ e2) gL_law_X9_same rfl ⟨rfl, rfl⟩ rfl hd_X9_same ⟨Nat.le_of_ble_eq_true rfl, Nat.le_of_ble_eq_true rfl⟩ rfl (Nat.le_of_ble_eq_true rfl) rfl dL_law_625 ?_
  exact j_icmp_eq (pc := 628) (tgt := 682) X dL_law_628 (by decide) (fun _ => kk _ _ hR1) (fun h => absurd rfl h)
theorem law_19 (Y : Lx g cI cS A ad am LV GV b L xs) (hL : L ≤ 2048) (hi : 4 * i + 4 ≤ L) (hR : Rl C M) (kk : ∀ C1 M1 : kS, Rl C1 M1 → LJ g cI cS ad am b C1 M1 682 i []) : LJ g cI cS ad am b C M 633 i [] := by
  obtain ⟨X, hA, hI, hZ, -⟩ := id Y
  obtain ⟨r, C1, M1, e1, e2, hR1⟩ := K_stepFor (N := 3000) hR (xs (4 * i + 1)) (Nat.le_refl 3000)
  refine j_aload_n (pc := 633) X dL_law_633 rfl ?_
  refine l_arg (pc := 634) Y hL 1 (by omega) (by decide) dL_law_634 dL_law_635 dL_law_636 dL_law_637 dL_law_638 ?_
  refine l_cW (pc := 639) X hA hI (c_X8_stepFor hI.1 3000 C _ e1) gL_law_X8_stepFor rfl ⟨rfl, rfl⟩ rfl hd_X8_stepFor ⟨Nat.le_of_ble_eq_true rfl, Nat.le_of_ble_eq_true rfl⟩ rfl (Nat.le_of_ble_eq_true rfl) rfl dL_law_639 ?_
  refine j_aload_n (pc := 642) X dL_law_642 rfl ?_
  refine l_arg (pc := 643) Y hL 1 (by omega) (by decide) dL_law_643 dL_law_644 dL_law_645 dL_law_646 dL_law_647 ?_
  refine l_mW (pc := 648) X hA hI (c_X9_stepFor hI.2.1 3000 M _ e2) gL_law_X9_stepFor rfl ⟨rfl, rfl⟩ rfl hd_X9_stepFor ⟨Nat.le_of_ble_eq_true rfl, Nat.le_of_ble_eq_true rfl⟩ rfl (Nat.le_of_ble_eq_true rfl) rfl dL_law_648 ?_
  exact j_icmp_eq (pc := 651) (tgt := 682) X dL_law_651 (by decide) (fun _ => kk _ _ hR1) (fun h => absurd rfl h)
theorem law_20 (Y : Lx g cI cS A ad am LV GV b L xs) (hL : L ≤ 2048) (hi : 4 * i + 4 ≤ L) (hR : Rl C M) (kk : ∀ C1 M1 : kS, Rl C1 M1 → LJ g cI cS ad am b C1 M1 682 i []) : LJ g cI cS ad am b C M 656 i [] := by
  obtain ⟨X, hA, hI, hZ, -⟩ := id Y
  obtain ⟨r, C1, M1, e1, e2, hR1⟩ := K_modeFor (N := 3000) hR (Nat.le_refl 3000)
  refine j_aload_n (pc := 656) X dL_law_656 rfl ?_
  refine l_cW (pc := 657) X hA hI (c_X8_modeFor hI.1 3000 C e1) gL_law_X8_modeFor rfl ⟨rfl, rfl⟩ rfl hd_X8_modeFor ⟨Nat.le_of_ble_eq_true rfl, Nat.le_of_ble_eq_true rfl⟩ rfl (Nat.le_of_ble_eq_true rfl) rfl dL_law_657 ?_
  refine j_aload_n (pc := 660) X dL_law_660 rfl ?_
  refine l_mW (pc := 661) X hA hI (c_X9_modeFor hI.2.1 3000 M e2) gL_law_X9_modeFor rfl ⟨rfl, rfl⟩ rfl hd_X9_modeFor ⟨Nat.le_of_ble_eq_true rfl, Nat.le_of_ble_eq_true rfl⟩ rfl (Nat.le_of_ble_eq_true rfl) rfl dL_law_661 ?_
  exact j_icmp_eq (pc := 664) (tgt := 682) X dL_law_664 (by decide) (fun _ => kk _ _ hR1) (fun h => absurd rfl h)
theorem law_21 (Y : Lx g cI cS A ad am LV GV b L xs) (hL : L ≤ 2048) (hi : 4 * i + 4 ≤ L) (hR : Rl C M) (kk : ∀ C1 M1 : kS, Rl C1 M1 → LJ g cI cS ad am b C1 M1 682 i []) : LJ g cI cS ad am b C M 669 i [] := by
  obtain ⟨X, hA, hI, hZ, -⟩ := id Y
  obtain ⟨r, C1, M1, e1, e2, hR1⟩ := K_undo (N := 3000) hR (Nat.le_refl 3000)
  refine j_aload_n (pc := 669) X dL_law_669 rfl ?_
  refine l_cW (pc := 670) X hA hI (c_X8_undo hI.1 3000 C e1) gL_law_X8_undo rfl ⟨rfl, rfl⟩ rfl hd_X8_undo ⟨Nat.le_of_ble_eq_true rfl, Nat.le_of_ble_eq_true rfl⟩ rfl (Nat.le_of_ble_eq_true rfl) rfl dL_law_670 ?_
  refine j_aload_n (pc := 673) X dL_law_673 rfl ?_
  refine l_mW (pc := 674) X hA hI (c_X9_undo hI.2.1 3000 M e2) gL_law_X9_undo rfl ⟨rfl, rfl⟩ rfl hd_X9_undo ⟨Nat.le_of_ble_eq_true rfl, Nat.le_of_ble_eq_true rfl⟩ rfl (Nat.le_of_ble_eq_true rfl) rfl dL_law_674 ?_
  exact j_icmp_eq (pc := 677) (tgt := 682) X dL_law_677 (by decide) (fun _ => kk _ _ hR1) (fun h => absurd rfl h)
end LC
