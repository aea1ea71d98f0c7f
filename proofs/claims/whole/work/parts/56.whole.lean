theorem cmp_self (x : Int64) : lg_cmp x x = 0 := by
  have h : ¬ x < x := fun h => by rw [j_lt] at h; omega
  unfold lg_cmp
  simp [h]
set_option maxHeartbeats 4000000 in
set_option maxRecDepth 100000 in
theorem law_loop {K : CX} {b L : Nat} {xs : Nat → Int32} (hk : OKZ K yL_law cL_law 4 room_1) (hX : XZ K b L xs) (hL : L ≤ 2560) : ∀ (k t n : Nat) (h : HP), t ≤ 512 → 513 ≤ t + k → SIM t n h → AZ K b (115 + 26 * t) (18421 + 256 * t) 18 [none, some (.ref 0), some (.ref 78), some (.int (nI (5 * t)))] [] n h := by
  intro k
  induction k with
  | zero => intro t n h h1 h2; omega
  | succ k ih =>
    intro t n h ht hn hSIM
    refine az_iload_n (pc2 := 19) hk dL_law_18 rfl rfl ?_
    refine az_len (pc2 := 21) hk hX dL_law_19 dL_law_20 rfl ?_
    refine az_iconst (v := 5) (pc2 := 22) hk dL_law_21 rfl (by decide) ?_
    refine az_isub (pc2 := 23) hk dL_law_22 rfl ?_
    have hsub : (nI L - 5).toInt = (L : Int) - 5 := pk_sub_toInt (a := L) (b := 5) (by omega) (by decide)
    refine az_icmp_gt (tgt := 979) (pc2 := 26) hk dL_law_23 (by decide) rfl (fun c23 => ?_) (fun c23 => ?_)
    · refine az_iconst (v := 1) (pc2 := 980) hk dL_law_979 rfl (by decide) ?_
      exact az_ret hX dL_law_980 (by omega) (by omega)
    · rw [i_lt, hsub, nI_toInt (by omega)] at c23
      have h5 : 5 * t + 5 ≤ L := by omega
      have nxt : ∀ (n2 : Nat) (h2 : HP) (cs sl : Nat), SIM (t + 1) n2 h2 → cs ≤ 115 + 26 * (t + 1) → sl ≤ 18421 + 256 * (t + 1) → AZ K b cs sl 973 [none, some (.ref 0), some (.ref 78), some (.int (nI (5 * t)))] [] n2 h2 := by
        intro n2 h2 cs sl hS2 hcs hsl
        refine az_iinc (v := nI (5 * (t + 1))) (pc2 := 976) hk dL_law_973 rfl rfl (by show nI (5 * t) + nI 5 = _; rw [nI_add]; rfl) (by decide) rfl ?_
        show AZ K b _ _ 976 [_, _, _, _] _ _ _
        refine az_goto (tgt := 18) hk dL_law_976 (by decide) ?_
        exact az_widen hcs hsl (ih (t + 1) n2 h2 (by omega) (by omega) hS2)
      refine az_el0 (pc2 := 29) hk hX dL_law_26 dL_law_27 dL_law_28 rfl rfl (by omega) hL ?_
      refine az_bipush (v := 31) (pc2 := 31) hk dL_law_29 rfl (by decide) ?_
      refine az_iand (pc2 := 32) hk dL_law_31 rfl ?_
      generalize xs (5 * t) &&& 31 = op
      by_cases hop : op.toInt < 0 ∨ 23 < op.toInt
      · refine az_tableOut (tgt := 973) hk dL_law_32 hop (by decide) ?_
        obtain ⟨d, I, J, S, L9, R, rfl, w9, g9, fc9, oc9, uc9, td9, md9, op9, oa9, nc9, ca9, h9⟩ := hSIM
        exact nxt n _ _ _ h9.same (by omega) (by omega)
      obtain ⟨v, hv, rfl⟩ : ∃ v : Nat, v < 24 ∧ op = nI v := ⟨op.toInt.toNat, by omega, i_eq (by omega)⟩
      obtain ⟨d, I, J, S, L9, R, rfl, hSim⟩ := hSIM
      match v, hv with
      | 0, _ =>
        refine az_tableIn (off := 112) (tgt := 144) hk dL_law_32 (by decide) (by decide) (by decide) (by decide) ?_
        refine az_aload_n (pc2 := 145) hk dL_law_144 rfl rfl ?_
        refine az_el (k := 1) (pc2 := 150) hk hX dL_law_145 dL_law_146 dL_law_147 dL_law_148 dL_law_149 rfl (by decide) rfl (by omega) hL ?_
        refine az_el (k := 2) (pc2 := 155) hk hX dL_law_150 dL_law_151 dL_law_152 dL_law_153 dL_law_154 rfl (by decide) rfl (by omega) hL ?_
        refine az_cV (rm2 := rmX6_map) (pc2 := 158) hk veX6_map dL_law_155 rfl ml_L_13 ⟨(Nat.le_of_ble_eq_true rfl), (Nat.le_of_ble_eq_true rfl)⟩ [_, _] rfl rfl (Nat.le_of_ble_eq_true rfl) (by show 115 + 26 * t + 0 ≤ 600000; omega) (by show 18421 + 256 * t + 0 ≤ 7302250; omega) (o_X6 rfl) ((s_map hSim).mono (fun r n1 h1 hp => ?_))
        obtain ⟨x, rfl, ⟨fs, hfs⟩, hC⟩ := hp
        show AZ K b _ _ 158 _ [.int x] n1 h1
        refine az_aload_n (pc2 := 159) hk dL_law_158 rfl rfl ?_
        refine az_el (k := 1) (pc2 := 164) hk hX dL_law_159 dL_law_160 dL_law_161 dL_law_162 dL_law_163 rfl (by decide) rfl (by omega) hL ?_
        refine az_el (k := 2) (pc2 := 169) hk hX dL_law_164 dL_law_165 dL_law_166 dL_law_167 dL_law_168 rfl (by decide) rfl (by omega) hL ?_
        refine az_cV (rm2 := rmX7_map) (pc2 := 172) hk veX7_map dL_law_169 rfl ml_L_17 ⟨(Nat.le_of_ble_eq_true rfl), (Nat.le_of_ble_eq_true rfl)⟩ [_, _] rfl rfl (Nat.le_of_ble_eq_true rfl) (by show 115 + 26 * t + 0 + 0 ≤ 600000; omega) (by show 18421 + 256 * t + 0 + 0 ≤ 7302250; omega) hfs (hC.mono (fun r2 n2 h2 hp2 => ?_))
        obtain ⟨rfl, hS2⟩ := hp2
        show AZ K b _ _ 172 _ [.int x, .int x] n2 h2
        exact az_icmp_eq (tgt := 973) (pc2 := 175) hk dL_law_172 (by decide) rfl (fun _ => nxt n2 h2 _ _ hS2 (by show 115 + 26 * t + 0 + 0 ≤ 115 + 26 * (t + 1); omega) (by show 18421 + 256 * t + 0 + 0 ≤ 18421 + 256 * (t + 1); omega)) (fun c9 => absurd rfl c9)
      | 1, _ =>
        refine az_tableIn (off := 145) (tgt := 177) hk dL_law_32 (by decide) (by decide) (by decide) (by decide) ?_
        refine az_aload_n (pc2 := 178) hk dL_law_177 rfl rfl ?_
        refine az_cV (rm2 := rmX6_field) (pc2 := 181) hk veX6_field dL_law_178 rfl ml_L_18 ⟨(Nat.le_of_ble_eq_true rfl), (Nat.le_of_ble_eq_true rfl)⟩ [] rfl rfl (Nat.le_of_ble_eq_true rfl) (by show 115 + 26 * t + 0 ≤ 600000; omega) (by show 18421 + 256 * t + 0 ≤ 7302250; omega) (o_X6 rfl) ((s_field hSim).mono (fun r n1 h1 hp => ?_))
        obtain ⟨x, rfl, ⟨fs, hfs⟩, hC⟩ := hp
        show AZ K b _ _ 181 _ [.int x] n1 h1
        refine az_aload_n (pc2 := 182) hk dL_law_181 rfl rfl ?_
        refine az_cV (rm2 := rmX7_field) (pc2 := 185) hk veX7_field dL_law_182 rfl ml_L_22 ⟨(Nat.le_of_ble_eq_true rfl), (Nat.le_of_ble_eq_true rfl)⟩ [] rfl rfl (Nat.le_of_ble_eq_true rfl) (by show 115 + 26 * t + 0 + 0 ≤ 600000; omega) (by show 18421 + 256 * t + 0 + 0 ≤ 7302250; omega) hfs (hC.mono (fun r2 n2 h2 hp2 => ?_))
        obtain ⟨rfl, hS2⟩ := hp2
        show AZ K b _ _ 185 _ [.int x, .int x] n2 h2
        exact az_icmp_eq (tgt := 973) (pc2 := 188) hk dL_law_185 (by decide) rfl (fun _ => nxt n2 h2 _ _ hS2 (by show 115 + 26 * t + 0 + 0 ≤ 115 + 26 * (t + 1); omega) (by show 18421 + 256 * t + 0 + 0 ≤ 18421 + 256 * (t + 1); omega)) (fun c9 => absurd rfl c9)
      | 2, _ =>
        refine az_tableIn (off := 158) (tgt := 190) hk dL_law_32 (by decide) (by decide) (by decide) (by decide) ?_
        refine az_aload_n (pc2 := 191) hk dL_law_190 rfl rfl ?_
        refine az_el (k := 1) (pc2 := 196) hk hX dL_law_191 dL_law_192 dL_law_193 dL_law_194 dL_law_195 rfl (by decide) rfl (by omega) hL ?_
        refine az_el (k := 2) (pc2 := 201) hk hX dL_law_196 dL_law_197 dL_law_198 dL_law_199 dL_law_200 rfl (by decide) rfl (by omega) hL ?_
        refine az_el (k := 3) (pc2 := 206) hk hX dL_law_201 dL_law_202 dL_law_203 dL_law_204 dL_law_205 rfl (by decide) rfl (by omega) hL ?_
        refine az_el (k := 4) (pc2 := 211) hk hX dL_law_206 dL_law_207 dL_law_208 dL_law_209 dL_law_210 rfl (by decide) rfl (by omega) hL ?_
        refine az_cV (rm2 := rmX6_cell) (pc2 := 214) hk veX6_cell dL_law_211 rfl ml_L_23 ⟨(Nat.le_of_ble_eq_true rfl), (Nat.le_of_ble_eq_true rfl)⟩ [_, _, _, _] rfl rfl (Nat.le_of_ble_eq_true rfl) (by show 115 + 26 * t + 0 ≤ 600000; omega) (by show 18421 + 256 * t + 0 ≤ 7302250; omega) (o_X6 rfl) ((s_cell hSim).mono (fun r n1 h1 hp => ?_))
        obtain ⟨x, rfl, ⟨fs, hfs⟩, hC⟩ := hp
        show AZ K b _ _ 214 _ [.int x] n1 h1
        refine az_aload_n (pc2 := 215) hk dL_law_214 rfl rfl ?_
        refine az_el (k := 1) (pc2 := 220) hk hX dL_law_215 dL_law_216 dL_law_217 dL_law_218 dL_law_219 rfl (by decide) rfl (by omega) hL ?_
        refine az_el (k := 2) (pc2 := 225) hk hX dL_law_220 dL_law_221 dL_law_222 dL_law_223 dL_law_224 rfl (by decide) rfl (by omega) hL ?_
        refine az_el (k := 3) (pc2 := 230) hk hX dL_law_225 dL_law_226 dL_law_227 dL_law_228 dL_law_229 rfl (by decide) rfl (by omega) hL ?_
        refine az_el (k := 4) (pc2 := 235) hk hX dL_law_230 dL_law_231 dL_law_232 dL_law_233 dL_law_234 rfl (by decide) rfl (by omega) hL ?_
        refine az_cV (rm2 := rmX7_cell) (pc2 := 238) hk veX7_cell dL_law_235 rfl ml_L_27 ⟨(Nat.le_of_ble_eq_true rfl), (Nat.le_of_ble_eq_true rfl)⟩ [_, _, _, _] rfl rfl (Nat.le_of_ble_eq_true rfl) (by show 115 + 26 * t + 0 + 0 ≤ 600000; omega) (by show 18421 + 256 * t + 0 + 0 ≤ 7302250; omega) hfs (hC.mono (fun r2 n2 h2 hp2 => ?_))
        obtain ⟨rfl, hS2⟩ := hp2
        show AZ K b _ _ 238 _ [.int x, .int x] n2 h2
        exact az_icmp_eq (tgt := 973) (pc2 := 241) hk dL_law_238 (by decide) rfl (fun _ => nxt n2 h2 _ _ hS2 (by show 115 + 26 * t + 0 + 0 ≤ 115 + 26 * (t + 1); omega) (by show 18421 + 256 * t + 0 + 0 ≤ 18421 + 256 * (t + 1); omega)) (fun c9 => absurd rfl c9)
      | 3, _ =>
        refine az_tableIn (off := 211) (tgt := 243) hk dL_law_32 (by decide) (by decide) (by decide) (by decide) ?_
        refine az_aload_n (pc2 := 244) hk dL_law_243 rfl rfl ?_
        refine az_el (k := 1) (pc2 := 249) hk hX dL_law_244 dL_law_245 dL_law_246 dL_law_247 dL_law_248 rfl (by decide) rfl (by omega) hL ?_
        refine az_el (k := 2) (pc2 := 254) hk hX dL_law_249 dL_law_250 dL_law_251 dL_law_252 dL_law_253 rfl (by decide) rfl (by omega) hL ?_
        refine az_cV (rm2 := rmX6_lane) (pc2 := 257) hk veX6_lane dL_law_254 rfl ml_L_28 ⟨(Nat.le_of_ble_eq_true rfl), (Nat.le_of_ble_eq_true rfl)⟩ [_, _] rfl rfl (Nat.le_of_ble_eq_true rfl) (by show 115 + 26 * t + 0 ≤ 600000; omega) (by show 18421 + 256 * t + 0 ≤ 7302250; omega) (o_X6 rfl) ((s_lane hSim).mono (fun r n1 h1 hp => ?_))
        obtain ⟨x, rfl, ⟨fs, hfs⟩, hC⟩ := hp
        show AZ K b _ _ 257 _ [.int x] n1 h1
        refine az_aload_n (pc2 := 258) hk dL_law_257 rfl rfl ?_
        refine az_el (k := 1) (pc2 := 263) hk hX dL_law_258 dL_law_259 dL_law_260 dL_law_261 dL_law_262 rfl (by decide) rfl (by omega) hL ?_
        refine az_el (k := 2) (pc2 := 268) hk hX dL_law_263 dL_law_264 dL_law_265 dL_law_266 dL_law_267 rfl (by decide) rfl (by omega) hL ?_
        refine az_cV (rm2 := rmX7_lane) (pc2 := 271) hk veX7_lane dL_law_268 rfl ml_L_31 ⟨(Nat.le_of_ble_eq_true rfl), (Nat.le_of_ble_eq_true rfl)⟩ [_, _] rfl rfl (Nat.le_of_ble_eq_true rfl) (by show 115 + 26 * t + 0 + 0 ≤ 600000; omega) (by show 18421 + 256 * t + 0 + 0 ≤ 7302250; omega) hfs (hC.mono (fun r2 n2 h2 hp2 => ?_))
        obtain ⟨rfl, hS2⟩ := hp2
        show AZ K b _ _ 271 _ [.int x, .int x] n2 h2
        exact az_icmp_eq (tgt := 973) (pc2 := 274) hk dL_law_271 (by decide) rfl (fun _ => nxt n2 h2 _ _ hS2 (by show 115 + 26 * t + 0 + 0 ≤ 115 + 26 * (t + 1); omega) (by show 18421 + 256 * t + 0 + 0 ≤ 18421 + 256 * (t + 1); omega)) (fun c9 => absurd rfl c9)
      | 4, _ =>
        refine az_tableIn (off := 244) (tgt := 276) hk dL_law_32 (by decide) (by decide) (by decide) (by decide) ?_
        refine az_aload_n (pc2 := 277) hk dL_law_276 rfl rfl ?_
        refine az_el (k := 1) (pc2 := 282) hk hX dL_law_277 dL_law_278 dL_law_279 dL_law_280 dL_law_281 rfl (by decide) rfl (by omega) hL ?_
        refine az_el (k := 2) (pc2 := 287) hk hX dL_law_282 dL_law_283 dL_law_284 dL_law_285 dL_law_286 rfl (by decide) rfl (by omega) hL ?_
        refine az_el (k := 3) (pc2 := 292) hk hX dL_law_287 dL_law_288 dL_law_289 dL_law_290 dL_law_291 rfl (by decide) rfl (by omega) hL ?_
        refine az_cV (rm2 := rmX6_house) (pc2 := 295) hk veX6_house dL_law_292 rfl ml_L_32 ⟨(Nat.le_of_ble_eq_true rfl), (Nat.le_of_ble_eq_true rfl)⟩ [_, _, _] rfl rfl (Nat.le_of_ble_eq_true rfl) (by show 115 + 26 * t + 0 ≤ 600000; omega) (by show 18421 + 256 * t + 0 ≤ 7302250; omega) (o_X6 rfl) ((s_house hSim).mono (fun r n1 h1 hp => ?_))
        obtain ⟨x, rfl, ⟨fs, hfs⟩, hC⟩ := hp
        show AZ K b _ _ 295 _ [.int x] n1 h1
        refine az_aload_n (pc2 := 296) hk dL_law_295 rfl rfl ?_
        refine az_el (k := 1) (pc2 := 301) hk hX dL_law_296 dL_law_297 dL_law_298 dL_law_299 dL_law_300 rfl (by decide) rfl (by omega) hL ?_
        refine az_el (k := 2) (pc2 := 306) hk hX dL_law_301 dL_law_302 dL_law_303 dL_law_304 dL_law_305 rfl (by decide) rfl (by omega) hL ?_
        refine az_el (k := 3) (pc2 := 311) hk hX dL_law_306 dL_law_307 dL_law_308 dL_law_309 dL_law_310 rfl (by decide) rfl (by omega) hL ?_
        refine az_cV (rm2 := rmX7_house) (pc2 := 314) hk veX7_house dL_law_311 rfl ml_L_36 ⟨(Nat.le_of_ble_eq_true rfl), (Nat.le_of_ble_eq_true rfl)⟩ [_, _, _] rfl rfl (Nat.le_of_ble_eq_true rfl) (by show 115 + 26 * t + 0 + 0 ≤ 600000; omega) (by show 18421 + 256 * t + 0 + 0 ≤ 7302250; omega) hfs (hC.mono (fun r2 n2 h2 hp2 => ?_))
        obtain ⟨rfl, hS2⟩ := hp2
        show AZ K b _ _ 314 _ [.int x, .int x] n2 h2
        exact az_icmp_eq (tgt := 973) (pc2 := 317) hk dL_law_314 (by decide) rfl (fun _ => nxt n2 h2 _ _ hS2 (by show 115 + 26 * t + 0 + 0 ≤ 115 + 26 * (t + 1); omega) (by show 18421 + 256 * t + 0 + 0 ≤ 18421 + 256 * (t + 1); omega)) (fun c9 => absurd rfl c9)
      | 5, _ =>
        refine az_tableIn (off := 287) (tgt := 319) hk dL_law_32 (by decide) (by decide) (by decide) (by decide) ?_
        refine az_aload_n (pc2 := 320) hk dL_law_319 rfl rfl ?_
        refine az_el (k := 1) (pc2 := 325) hk hX dL_law_320 dL_law_321 dL_law_322 dL_law_323 dL_law_324 rfl (by decide) rfl (by omega) hL ?_
        refine az_el (k := 2) (pc2 := 330) hk hX dL_law_325 dL_law_326 dL_law_327 dL_law_328 dL_law_329 rfl (by decide) rfl (by omega) hL ?_
        refine az_el (k := 3) (pc2 := 335) hk hX dL_law_330 dL_law_331 dL_law_332 dL_law_333 dL_law_334 rfl (by decide) rfl (by omega) hL ?_
        refine az_cV (rm2 := rmX6_right) (pc2 := 338) hk veX6_right dL_law_335 rfl ml_L_37 ⟨(Nat.le_of_ble_eq_true rfl), (Nat.le_of_ble_eq_true rfl)⟩ [_, _, _] rfl rfl (Nat.le_of_ble_eq_true rfl) (by show 115 + 26 * t + 0 ≤ 600000; omega) (by show 18421 + 256 * t + 0 ≤ 7302250; omega) (o_X6 rfl) ((s_right hSim).mono (fun r n1 h1 hp => ?_))
        obtain ⟨x, rfl, ⟨fs, hfs⟩, hC⟩ := hp
        show AZ K b _ _ 338 _ [.int x] n1 h1
        refine az_aload_n (pc2 := 339) hk dL_law_338 rfl rfl ?_
        refine az_el (k := 1) (pc2 := 344) hk hX dL_law_339 dL_law_340 dL_law_341 dL_law_342 dL_law_343 rfl (by decide) rfl (by omega) hL ?_
        refine az_el (k := 2) (pc2 := 349) hk hX dL_law_344 dL_law_345 dL_law_346 dL_law_347 dL_law_348 rfl (by decide) rfl (by omega) hL ?_
        refine az_el (k := 3) (pc2 := 354) hk hX dL_law_349 dL_law_350 dL_law_351 dL_law_352 dL_law_353 rfl (by decide) rfl (by omega) hL ?_
        refine az_cV (rm2 := rmX7_right) (pc2 := 357) hk veX7_right dL_law_354 rfl ml_L_40 ⟨(Nat.le_of_ble_eq_true rfl), (Nat.le_of_ble_eq_true rfl)⟩ [_, _, _] rfl rfl (Nat.le_of_ble_eq_true rfl) (by show 115 + 26 * t + 0 + 0 ≤ 600000; omega) (by show 18421 + 256 * t + 0 + 0 ≤ 7302250; omega) hfs (hC.mono (fun r2 n2 h2 hp2 => ?_))
        obtain ⟨rfl, hS2⟩ := hp2
        show AZ K b _ _ 357 _ [.int x, .int x] n2 h2
        exact az_icmp_eq (tgt := 973) (pc2 := 360) hk dL_law_357 (by decide) rfl (fun _ => nxt n2 h2 _ _ hS2 (by show 115 + 26 * t + 0 + 0 ≤ 115 + 26 * (t + 1); omega) (by show 18421 + 256 * t + 0 + 0 ≤ 18421 + 256 * (t + 1); omega)) (fun c9 => absurd rfl c9)
      | 6, _ =>
        refine az_tableIn (off := 330) (tgt := 362) hk dL_law_32 (by decide) (by decide) (by decide) (by decide) ?_
        refine az_aload_n (pc2 := 363) hk dL_law_362 rfl rfl ?_
        refine az_el (k := 1) (pc2 := 368) hk hX dL_law_363 dL_law_364 dL_law_365 dL_law_366 dL_law_367 rfl (by decide) rfl (by omega) hL ?_
        refine az_el (k := 2) (pc2 := 373) hk hX dL_law_368 dL_law_369 dL_law_370 dL_law_371 dL_law_372 rfl (by decide) rfl (by omega) hL ?_
        refine az_el (k := 3) (pc2 := 378) hk hX dL_law_373 dL_law_374 dL_law_375 dL_law_376 dL_law_377 rfl (by decide) rfl (by omega) hL ?_
        refine az_cV (rm2 := rmX6_price) (pc2 := 381) hk veX6_price dL_law_378 rfl ml_L_41 ⟨(Nat.le_of_ble_eq_true rfl), (Nat.le_of_ble_eq_true rfl)⟩ [_, _, _] rfl rfl (Nat.le_of_ble_eq_true rfl) (by show 115 + 26 * t + 0 ≤ 600000; omega) (by show 18421 + 256 * t + 0 ≤ 7302250; omega) (o_X6 rfl) ((s_price hSim).mono (fun r n1 h1 hp => ?_))
        obtain ⟨x, rfl, ⟨fs, hfs⟩, hC⟩ := hp
        show AZ K b _ _ 381 _ [.int x] n1 h1
        refine az_aload_n (pc2 := 382) hk dL_law_381 rfl rfl ?_
        refine az_el (k := 1) (pc2 := 387) hk hX dL_law_382 dL_law_383 dL_law_384 dL_law_385 dL_law_386 rfl (by decide) rfl (by omega) hL ?_
        refine az_el (k := 2) (pc2 := 392) hk hX dL_law_387 dL_law_388 dL_law_389 dL_law_390 dL_law_391 rfl (by decide) rfl (by omega) hL ?_
        refine az_el (k := 3) (pc2 := 397) hk hX dL_law_392 dL_law_393 dL_law_394 dL_law_395 dL_law_396 rfl (by decide) rfl (by omega) hL ?_
        refine az_cV (rm2 := rmX7_price) (pc2 := 400) hk veX7_price dL_law_397 rfl ml_L_44 ⟨(Nat.le_of_ble_eq_true rfl), (Nat.le_of_ble_eq_true rfl)⟩ [_, _, _] rfl rfl (Nat.le_of_ble_eq_true rfl) (by show 115 + 26 * t + 0 + 0 ≤ 600000; omega) (by show 18421 + 256 * t + 0 + 0 ≤ 7302250; omega) hfs (hC.mono (fun r2 n2 h2 hp2 => ?_))
        obtain ⟨rfl, hS2⟩ := hp2
        show AZ K b _ _ 400 _ [.int x, .int x] n2 h2
        exact az_icmp_eq (tgt := 973) (pc2 := 403) hk dL_law_400 (by decide) rfl (fun _ => nxt n2 h2 _ _ hS2 (by show 115 + 26 * t + 0 + 0 ≤ 115 + 26 * (t + 1); omega) (by show 18421 + 256 * t + 0 + 0 ≤ 18421 + 256 * (t + 1); omega)) (fun c9 => absurd rfl c9)
      | 7, _ =>
        refine az_tableIn (off := 373) (tgt := 405) hk dL_law_32 (by decide) (by decide) (by decide) (by decide) ?_
        refine az_aload_n (pc2 := 406) hk dL_law_405 rfl rfl ?_
        refine az_el (k := 1) (pc2 := 411) hk hX dL_law_406 dL_law_407 dL_law_408 dL_law_409 dL_law_410 rfl (by decide) rfl (by omega) hL ?_
        refine az_el (k := 2) (pc2 := 416) hk hX dL_law_411 dL_law_412 dL_law_413 dL_law_414 dL_law_415 rfl (by decide) rfl (by omega) hL ?_
        refine az_cV (rm2 := rmX6_costs) (pc2 := 419) hk veX6_costs dL_law_416 rfl ml_L_45 ⟨(Nat.le_of_ble_eq_true rfl), (Nat.le_of_ble_eq_true rfl)⟩ [_, _] rfl rfl (Nat.le_of_ble_eq_true rfl) (by show 115 + 26 * t + 0 ≤ 600000; omega) (by show 18421 + 256 * t + 0 ≤ 7302250; omega) (o_X6 rfl) ((s_costs hSim).mono (fun r n1 h1 hp => ?_))
        obtain ⟨x, rfl, ⟨fs, hfs⟩, hC⟩ := hp
        show AZ K b _ _ 419 _ [.int x] n1 h1
        refine az_aload_n (pc2 := 420) hk dL_law_419 rfl rfl ?_
        refine az_el (k := 1) (pc2 := 425) hk hX dL_law_420 dL_law_421 dL_law_422 dL_law_423 dL_law_424 rfl (by decide) rfl (by omega) hL ?_
        refine az_el (k := 2) (pc2 := 430) hk hX dL_law_425 dL_law_426 dL_law_427 dL_law_428 dL_law_429 rfl (by decide) rfl (by omega) hL ?_
        refine az_cV (rm2 := rmX7_costs) (pc2 := 433) hk veX7_costs dL_law_430 rfl ml_L_48 ⟨(Nat.le_of_ble_eq_true rfl), (Nat.le_of_ble_eq_true rfl)⟩ [_, _] rfl rfl (Nat.le_of_ble_eq_true rfl) (by show 115 + 26 * t + 0 + 0 ≤ 600000; omega) (by show 18421 + 256 * t + 0 + 0 ≤ 7302250; omega) hfs (hC.mono (fun r2 n2 h2 hp2 => ?_))
        obtain ⟨rfl, hS2⟩ := hp2
        show AZ K b _ _ 433 _ [.int x, .int x] n2 h2
        exact az_icmp_eq (tgt := 973) (pc2 := 436) hk dL_law_433 (by decide) rfl (fun _ => nxt n2 h2 _ _ hS2 (by show 115 + 26 * t + 0 + 0 ≤ 115 + 26 * (t + 1); omega) (by show 18421 + 256 * t + 0 + 0 ≤ 18421 + 256 * (t + 1); omega)) (fun c9 => absurd rfl c9)
      | 8, _ =>
        refine az_tableIn (off := 406) (tgt := 438) hk dL_law_32 (by decide) (by decide) (by decide) (by decide) ?_
        refine az_aload_n (pc2 := 439) hk dL_law_438 rfl rfl ?_
        refine az_el (k := 1) (pc2 := 444) hk hX dL_law_439 dL_law_440 dL_law_441 dL_law_442 dL_law_443 rfl (by decide) rfl (by omega) hL ?_
        refine az_el (k := 2) (pc2 := 449) hk hX dL_law_444 dL_law_445 dL_law_446 dL_law_447 dL_law_448 rfl (by decide) rfl (by omega) hL ?_
        refine az_cV (rm2 := rmX6_rate) (pc2 := 452) hk veX6_rate dL_law_449 rfl ml_L_49 ⟨(Nat.le_of_ble_eq_true rfl), (Nat.le_of_ble_eq_true rfl)⟩ [_, _] rfl rfl (Nat.le_of_ble_eq_true rfl) (by show 115 + 26 * t + 0 ≤ 600000; omega) (by show 18421 + 256 * t + 0 ≤ 7302250; omega) (o_X6 rfl) ((s_rate hSim).mono (fun r n1 h1 hp => ?_))
        obtain ⟨x, rfl, ⟨fs, hfs⟩, hC⟩ := hp
        show AZ K b _ _ 452 _ [.int x] n1 h1
        refine az_aload_n (pc2 := 453) hk dL_law_452 rfl rfl ?_
        refine az_el (k := 1) (pc2 := 458) hk hX dL_law_453 dL_law_454 dL_law_455 dL_law_456 dL_law_457 rfl (by decide) rfl (by omega) hL ?_
        refine az_el (k := 2) (pc2 := 463) hk hX dL_law_458 dL_law_459 dL_law_460 dL_law_461 dL_law_462 rfl (by decide) rfl (by omega) hL ?_
        refine az_cV (rm2 := rmX7_rate) (pc2 := 466) hk veX7_rate dL_law_463 rfl ml_L_52 ⟨(Nat.le_of_ble_eq_true rfl), (Nat.le_of_ble_eq_true rfl)⟩ [_, _] rfl rfl (Nat.le_of_ble_eq_true rfl) (by show 115 + 26 * t + 0 + 0 ≤ 600000; omega) (by show 18421 + 256 * t + 0 + 0 ≤ 7302250; omega) hfs (hC.mono (fun r2 n2 h2 hp2 => ?_))
        obtain ⟨rfl, hS2⟩ := hp2
        show AZ K b _ _ 466 _ [.int x, .int x] n2 h2
        exact az_icmp_eq (tgt := 973) (pc2 := 469) hk dL_law_466 (by decide) rfl (fun _ => nxt n2 h2 _ _ hS2 (by show 115 + 26 * t + 0 + 0 ≤ 115 + 26 * (t + 1); omega) (by show 18421 + 256 * t + 0 + 0 ≤ 18421 + 256 * (t + 1); omega)) (fun c9 => absurd rfl c9)
      | 9, _ =>
        refine az_tableIn (off := 439) (tgt := 471) hk dL_law_32 (by decide) (by decide) (by decide) (by decide) ?_
        refine az_aload_n (pc2 := 472) hk dL_law_471 rfl rfl ?_
        refine az_el (k := 1) (pc2 := 477) hk hX dL_law_472 dL_law_473 dL_law_474 dL_law_475 dL_law_476 rfl (by decide) rfl (by omega) hL ?_
        refine az_cV (rm2 := rmX6_days) (pc2 := 480) hk veX6_days dL_law_477 rfl ml_L_53 ⟨(Nat.le_of_ble_eq_true rfl), (Nat.le_of_ble_eq_true rfl)⟩ [_] rfl rfl (Nat.le_of_ble_eq_true rfl) (by show 115 + 26 * t + 0 ≤ 600000; omega) (by show 18421 + 256 * t + 0 ≤ 7302250; omega) (o_X6 rfl) ((s_days hSim).mono (fun r n1 h1 hp => ?_))
        obtain ⟨x, rfl, ⟨fs, hfs⟩, hC⟩ := hp
        show AZ K b _ _ 480 _ [.int x] n1 h1
        refine az_aload_n (pc2 := 481) hk dL_law_480 rfl rfl ?_
        refine az_el (k := 1) (pc2 := 486) hk hX dL_law_481 dL_law_482 dL_law_483 dL_law_484 dL_law_485 rfl (by decide) rfl (by omega) hL ?_
        refine az_cV (rm2 := rmX7_days) (pc2 := 489) hk veX7_days dL_law_486 rfl ml_L_57 ⟨(Nat.le_of_ble_eq_true rfl), (Nat.le_of_ble_eq_true rfl)⟩ [_] rfl rfl (Nat.le_of_ble_eq_true rfl) (by show 115 + 26 * t + 0 + 0 ≤ 600000; omega) (by show 18421 + 256 * t + 0 + 0 ≤ 7302250; omega) hfs (hC.mono (fun r2 n2 h2 hp2 => ?_))
        obtain ⟨rfl, hS2⟩ := hp2
        show AZ K b _ _ 489 _ [.int x, .int x] n2 h2
        exact az_icmp_eq (tgt := 973) (pc2 := 492) hk dL_law_489 (by decide) rfl (fun _ => nxt n2 h2 _ _ hS2 (by show 115 + 26 * t + 0 + 0 ≤ 115 + 26 * (t + 1); omega) (by show 18421 + 256 * t + 0 + 0 ≤ 18421 + 256 * (t + 1); omega)) (fun c9 => absurd rfl c9)
      | 10, _ =>
        refine az_tableIn (off := 462) (tgt := 494) hk dL_law_32 (by decide) (by decide) (by decide) (by decide) ?_
        refine az_aload_n (pc2 := 495) hk dL_law_494 rfl rfl ?_
        refine az_el (k := 1) (pc2 := 500) hk hX dL_law_495 dL_law_496 dL_law_497 dL_law_498 dL_law_499 rfl (by decide) rfl (by omega) hL ?_
        refine az_el (k := 2) (pc2 := 505) hk hX dL_law_500 dL_law_501 dL_law_502 dL_law_503 dL_law_504 rfl (by decide) rfl (by omega) hL ?_
        refine az_el (k := 3) (pc2 := 510) hk hX dL_law_505 dL_law_506 dL_law_507 dL_law_508 dL_law_509 rfl (by decide) rfl (by omega) hL ?_
        refine az_nz (t1 := 517) (t2 := 518) hk dL_law_510 (by decide) dL_law_513 dL_law_514 (by decide) dL_law_517 rfl ?_
        refine az_cV (rm2 := rmX6_line) (pc2 := 521) hk veX6_line dL_law_518 rfl ml_L_58 ⟨(Nat.le_of_ble_eq_true rfl), (Nat.le_of_ble_eq_true rfl)⟩ [_, _, _] rfl rfl (Nat.le_of_ble_eq_true rfl) (by show 115 + 26 * t + 0 ≤ 600000; omega) (by show 18421 + 256 * t + 0 ≤ 7302250; omega) (o_X6 rfl) ((s_line hSim (bi_01 _)).mono (fun r n1 h1 hp => ?_))
        obtain ⟨x, rfl, ⟨fs, hfs⟩, hC⟩ := hp
        show AZ K b _ _ 521 _ [.int x] n1 h1
        refine az_aload_n (pc2 := 522) hk dL_law_521 rfl rfl ?_
        refine az_el (k := 1) (pc2 := 527) hk hX dL_law_522 dL_law_523 dL_law_524 dL_law_525 dL_law_526 rfl (by decide) rfl (by omega) hL ?_
        refine az_el (k := 2) (pc2 := 532) hk hX dL_law_527 dL_law_528 dL_law_529 dL_law_530 dL_law_531 rfl (by decide) rfl (by omega) hL ?_
        refine az_el (k := 3) (pc2 := 537) hk hX dL_law_532 dL_law_533 dL_law_534 dL_law_535 dL_law_536 rfl (by decide) rfl (by omega) hL ?_
        refine az_nz (t1 := 544) (t2 := 545) hk dL_law_537 (by decide) dL_law_540 dL_law_541 (by decide) dL_law_544 rfl ?_
        refine az_cV (rm2 := rmX7_line) (pc2 := 548) hk veX7_line dL_law_545 rfl ml_L_62 ⟨(Nat.le_of_ble_eq_true rfl), (Nat.le_of_ble_eq_true rfl)⟩ [_, _, _] rfl rfl (Nat.le_of_ble_eq_true rfl) (by show 115 + 26 * t + 0 + 0 ≤ 600000; omega) (by show 18421 + 256 * t + 0 + 0 ≤ 7302250; omega) hfs (hC.mono (fun r2 n2 h2 hp2 => ?_))
        obtain ⟨rfl, hS2⟩ := hp2
        show AZ K b _ _ 548 _ [.int x, .int x] n2 h2
        exact az_icmp_eq (tgt := 973) (pc2 := 551) hk dL_law_548 (by decide) rfl (fun _ => nxt n2 h2 _ _ hS2 (by show 115 + 26 * t + 0 + 0 ≤ 115 + 26 * (t + 1); omega) (by show 18421 + 256 * t + 0 + 0 ≤ 18421 + 256 * (t + 1); omega)) (fun c9 => absurd rfl c9)
      | 11, _ =>
        refine az_tableIn (off := 521) (tgt := 553) hk dL_law_32 (by decide) (by decide) (by decide) (by decide) ?_
        refine az_aload_n (pc2 := 554) hk dL_law_553 rfl rfl ?_
        refine az_cV (rm2 := rmX6_make) (pc2 := 557) hk veX6_make dL_law_554 rfl ml_L_63 ⟨(Nat.le_of_ble_eq_true rfl), (Nat.le_of_ble_eq_true rfl)⟩ [] rfl rfl (Nat.le_of_ble_eq_true rfl) (by show 115 + 26 * t + 26 ≤ 600000; omega) (by show 18421 + 256 * t + 256 ≤ 7302250; omega) (o_X6 rfl) ((s_make hSim).mono (fun r n1 h1 hp => ?_))
        obtain ⟨x, rfl, ⟨fs, hfs⟩, hC⟩ := hp
        show AZ K b _ _ 557 _ [.int x] n1 h1
        refine az_aload_n (pc2 := 558) hk dL_law_557 rfl rfl ?_
        refine az_cV (rm2 := rmX7_make) (pc2 := 561) hk veX7_make dL_law_558 rfl ml_L_66 ⟨(Nat.le_of_ble_eq_true rfl), (Nat.le_of_ble_eq_true rfl)⟩ [] rfl rfl (Nat.le_of_ble_eq_true rfl) (by show 115 + 26 * t + 26 + 0 ≤ 600000; omega) (by show 18421 + 256 * t + 256 + 0 ≤ 7302250; omega) hfs (hC.mono (fun r2 n2 h2 hp2 => ?_))
        obtain ⟨rfl, hS2⟩ := hp2
        show AZ K b _ _ 561 _ [.int x, .int x] n2 h2
        exact az_icmp_eq (tgt := 973) (pc2 := 564) hk dL_law_561 (by decide) rfl (fun _ => nxt n2 h2 _ _ hS2 (by show 115 + 26 * t + 26 + 0 ≤ 115 + 26 * (t + 1); omega) (by show 18421 + 256 * t + 256 + 0 ≤ 18421 + 256 * (t + 1); omega)) (fun c9 => absurd rfl c9)
      | 12, _ =>
        refine az_tableIn (off := 534) (tgt := 566) hk dL_law_32 (by decide) (by decide) (by decide) (by decide) ?_
        refine az_aload_n (pc2 := 567) hk dL_law_566 rfl rfl ?_
        refine az_el (k := 1) (pc2 := 572) hk hX dL_law_567 dL_law_568 dL_law_569 dL_law_570 dL_law_571 rfl (by decide) rfl (by omega) hL ?_
        refine az_cV (rm2 := rmX6_object) (pc2 := 575) hk veX6_object dL_law_572 rfl ml_L_67 ⟨(Nat.le_of_ble_eq_true rfl), (Nat.le_of_ble_eq_true rfl)⟩ [_] rfl rfl (Nat.le_of_ble_eq_true rfl) (by show 115 + 26 * t + 0 ≤ 600000; omega) (by show 18421 + 256 * t + 0 ≤ 7302250; omega) (o_X6 rfl) ((s_object hSim).mono (fun r n1 h1 hp => ?_))
        obtain ⟨x, rfl, ⟨fs, hfs⟩, hC⟩ := hp
        show AZ K b _ _ 575 _ [.int x] n1 h1
        refine az_aload_n (pc2 := 576) hk dL_law_575 rfl rfl ?_
        refine az_el (k := 1) (pc2 := 581) hk hX dL_law_576 dL_law_577 dL_law_578 dL_law_579 dL_law_580 rfl (by decide) rfl (by omega) hL ?_
        refine az_cV (rm2 := rmX7_object) (pc2 := 584) hk veX7_object dL_law_581 rfl ml_L_70 ⟨(Nat.le_of_ble_eq_true rfl), (Nat.le_of_ble_eq_true rfl)⟩ [_] rfl rfl (Nat.le_of_ble_eq_true rfl) (by show 115 + 26 * t + 0 + 0 ≤ 600000; omega) (by show 18421 + 256 * t + 0 + 0 ≤ 7302250; omega) hfs (hC.mono (fun r2 n2 h2 hp2 => ?_))
        obtain ⟨rfl, hS2⟩ := hp2
        show AZ K b _ _ 584 _ [.int x, .int x] n2 h2
        exact az_icmp_eq (tgt := 973) (pc2 := 587) hk dL_law_584 (by decide) rfl (fun _ => nxt n2 h2 _ _ hS2 (by show 115 + 26 * t + 0 + 0 ≤ 115 + 26 * (t + 1); omega) (by show 18421 + 256 * t + 0 + 0 ≤ 18421 + 256 * (t + 1); omega)) (fun c9 => absurd rfl c9)
      | 13, _ =>
        refine az_tableIn (off := 557) (tgt := 589) hk dL_law_32 (by decide) (by decide) (by decide) (by decide) ?_
        refine az_aload_n (pc2 := 590) hk dL_law_589 rfl rfl ?_
        refine az_el (k := 1) (pc2 := 595) hk hX dL_law_590 dL_law_591 dL_law_592 dL_law_593 dL_law_594 rfl (by decide) rfl (by omega) hL ?_
        refine az_el (k := 2) (pc2 := 600) hk hX dL_law_595 dL_law_596 dL_law_597 dL_law_598 dL_law_599 rfl (by decide) rfl (by omega) hL ?_
        refine az_nz (t1 := 607) (t2 := 608) hk dL_law_600 (by decide) dL_law_603 dL_law_604 (by decide) dL_law_607 rfl ?_
        refine az_cV (rm2 := rmX6_hear) (pc2 := 611) hk veX6_hear dL_law_608 rfl ml_L_71 ⟨(Nat.le_of_ble_eq_true rfl), (Nat.le_of_ble_eq_true rfl)⟩ [_, _] rfl rfl (Nat.le_of_ble_eq_true rfl) (by show 115 + 26 * t + 0 ≤ 600000; omega) (by show 18421 + 256 * t + 0 ≤ 7302250; omega) (o_X6 rfl) ((s_hear hSim).mono (fun r n1 h1 hp => ?_))
        obtain ⟨x, rfl, ⟨fs, hfs⟩, hC⟩ := hp
        show AZ K b _ _ 611 _ [.int x] n1 h1
        refine az_aload_n (pc2 := 612) hk dL_law_611 rfl rfl ?_
        refine az_el (k := 1) (pc2 := 617) hk hX dL_law_612 dL_law_613 dL_law_614 dL_law_615 dL_law_616 rfl (by decide) rfl (by omega) hL ?_
        refine az_el (k := 2) (pc2 := 622) hk hX dL_law_617 dL_law_618 dL_law_619 dL_law_620 dL_law_621 rfl (by decide) rfl (by omega) hL ?_
        refine az_nz (t1 := 629) (t2 := 630) hk dL_law_622 (by decide) dL_law_625 dL_law_626 (by decide) dL_law_629 rfl ?_
        refine az_cV (rm2 := rmX7_hear) (pc2 := 633) hk veX7_hear dL_law_630 rfl ml_L_75 ⟨(Nat.le_of_ble_eq_true rfl), (Nat.le_of_ble_eq_true rfl)⟩ [_, _] rfl rfl (Nat.le_of_ble_eq_true rfl) (by show 115 + 26 * t + 0 + 0 ≤ 600000; omega) (by show 18421 + 256 * t + 0 + 0 ≤ 7302250; omega) hfs (hC.mono (fun r2 n2 h2 hp2 => ?_))
        obtain ⟨rfl, hS2⟩ := hp2
        show AZ K b _ _ 633 _ [.int x, .int x] n2 h2
        exact az_icmp_eq (tgt := 973) (pc2 := 636) hk dL_law_633 (by decide) rfl (fun _ => nxt n2 h2 _ _ hS2 (by show 115 + 26 * t + 0 + 0 ≤ 115 + 26 * (t + 1); omega) (by show 18421 + 256 * t + 0 + 0 ≤ 18421 + 256 * (t + 1); omega)) (fun c9 => absurd rfl c9)
      | 14, _ =>
        refine az_tableIn (off := 606) (tgt := 638) hk dL_law_32 (by decide) (by decide) (by decide) (by decide) ?_
        refine az_aload_n (pc2 := 639) hk dL_law_638 rfl rfl ?_
        refine az_cV (rm2 := rmX6_enter) (pc2 := 642) hk veX6_enter dL_law_639 rfl ml_L_76 ⟨(Nat.le_of_ble_eq_true rfl), (Nat.le_of_ble_eq_true rfl)⟩ [] rfl rfl (Nat.le_of_ble_eq_true rfl) (by show 115 + 26 * t + 0 ≤ 600000; omega) (by show 18421 + 256 * t + 0 ≤ 7302250; omega) (o_X6 rfl) ((s_enter hSim).mono (fun r n1 h1 hp => ?_))
        obtain ⟨x, rfl, ⟨fs, hfs⟩, hC⟩ := hp
        show AZ K b _ _ 642 _ [.int x] n1 h1
        refine az_aload_n (pc2 := 643) hk dL_law_642 rfl rfl ?_
        refine az_cV (rm2 := rmX7_enter) (pc2 := 646) hk veX7_enter dL_law_643 rfl ml_L_79 ⟨(Nat.le_of_ble_eq_true rfl), (Nat.le_of_ble_eq_true rfl)⟩ [] rfl rfl (Nat.le_of_ble_eq_true rfl) (by show 115 + 26 * t + 0 + 0 ≤ 600000; omega) (by show 18421 + 256 * t + 0 + 0 ≤ 7302250; omega) hfs (hC.mono (fun r2 n2 h2 hp2 => ?_))
        obtain ⟨rfl, hS2⟩ := hp2
        show AZ K b _ _ 646 _ [.int x, .int x] n2 h2
        exact az_icmp_eq (tgt := 973) (pc2 := 649) hk dL_law_646 (by decide) rfl (fun _ => nxt n2 h2 _ _ hS2 (by show 115 + 26 * t + 0 + 0 ≤ 115 + 26 * (t + 1); omega) (by show 18421 + 256 * t + 0 + 0 ≤ 18421 + 256 * (t + 1); omega)) (fun c9 => absurd rfl c9)
      | 15, _ =>
        refine az_tableIn (off := 619) (tgt := 651) hk dL_law_32 (by decide) (by decide) (by decide) (by decide) ?_
        refine az_aload_n (pc2 := 652) hk dL_law_651 rfl rfl ?_
        refine az_cV (rm2 := rmX6_undo) (pc2 := 655) hk veX6_undo dL_law_652 rfl ml_L_80 ⟨(Nat.le_of_ble_eq_true rfl), (Nat.le_of_ble_eq_true rfl)⟩ [] rfl rfl (Nat.le_of_ble_eq_true rfl) (by show 115 + 26 * t + 0 ≤ 600000; omega) (by show 18421 + 256 * t + 0 ≤ 7302250; omega) (o_X6 rfl) ((s_undo hSim (by omega)).mono (fun r n1 h1 hp => ?_))
        obtain ⟨x, rfl, ⟨fs, hfs⟩, hC⟩ := hp
        show AZ K b _ _ 655 _ [.long x] n1 h1
        refine az_aload_n (pc2 := 656) hk dL_law_655 rfl rfl ?_
        refine az_cV (rm2 := rmX7_undo) (pc2 := 659) hk veX7_undo dL_law_656 rfl ml_L_84 ⟨(Nat.le_of_ble_eq_true rfl), (Nat.le_of_ble_eq_true rfl)⟩ [] rfl rfl (Nat.le_of_ble_eq_true rfl) (by show 115 + 26 * t + 0 + 0 ≤ 600000; omega) (by show 18421 + 256 * t + 0 + 0 ≤ 7302250; omega) hfs (hC.mono (fun r2 n2 h2 hp2 => ?_))
        obtain ⟨rfl, hS2⟩ := hp2
        show AZ K b _ _ 659 _ [.long x, .long x] n2 h2
        refine az_lcmp (pc2 := 660) hk dL_law_659 rfl ?_
        exact az_if_eq (tgt := 973) (pc2 := 663) hk dL_law_660 (by decide) rfl (fun _ => nxt n2 h2 _ _ hS2 (by show 115 + 26 * t + 0 + 0 ≤ 115 + 26 * (t + 1); omega) (by show 18421 + 256 * t + 0 + 0 ≤ 18421 + 256 * (t + 1); omega)) (fun c9 => absurd (cmp_self x) c9)
      | 16, _ =>
        refine az_tableIn (off := 633) (tgt := 665) hk dL_law_32 (by decide) (by decide) (by decide) (by decide) ?_
        refine az_aload_n (pc2 := 666) hk dL_law_665 rfl rfl ?_
        refine az_el (k := 1) (pc2 := 671) hk hX dL_law_666 dL_law_667 dL_law_668 dL_law_669 dL_law_670 rfl (by decide) rfl (by omega) hL ?_
        refine az_el (k := 2) (pc2 := 676) hk hX dL_law_671 dL_law_672 dL_law_673 dL_law_674 dL_law_675 rfl (by decide) rfl (by omega) hL ?_
        refine az_el (k := 3) (pc2 := 681) hk hX dL_law_676 dL_law_677 dL_law_678 dL_law_679 dL_law_680 rfl (by decide) rfl (by omega) hL ?_
        refine az_i2l (pc2 := 682) hk dL_law_681 rfl ?_
        refine az_bipush (v := 32) (pc2 := 684) hk dL_law_682 rfl (by decide) ?_
        refine az_lshl (pc2 := 685) hk dL_law_684 rfl ?_
        refine az_el (k := 4) (pc2 := 690) hk hX dL_law_685 dL_law_686 dL_law_687 dL_law_688 dL_law_689 rfl (by decide) rfl (by omega) hL ?_
        refine az_i2l (pc2 := 691) hk dL_law_690 rfl ?_
        refine az_ldc2 (pc2 := 694) hk dL_law_691 rfl kl_L_85 ?_
        refine az_land (pc2 := 695) hk dL_law_694 rfl ?_
        refine az_lor (pc2 := 696) hk dL_law_695 rfl ?_
        refine az_cV (rm2 := rmX6_pay) (pc2 := 699) hk veX6_pay dL_law_696 rfl ml_L_87 ⟨(Nat.le_of_ble_eq_true rfl), (Nat.le_of_ble_eq_true rfl)⟩ [_, _, _] rfl rfl (Nat.le_of_ble_eq_true rfl) (by show 115 + 26 * t + 0 ≤ 600000; omega) (by show 18421 + 256 * t + 0 ≤ 7302250; omega) (o_X6 rfl) ((s_pay hSim).mono (fun r n1 h1 hp => ?_))
        obtain ⟨x, rfl, ⟨fs, hfs⟩, hC⟩ := hp
        show AZ K b _ _ 699 _ [.long x] n1 h1
        refine az_aload_n (pc2 := 700) hk dL_law_699 rfl rfl ?_
        refine az_el (k := 1) (pc2 := 705) hk hX dL_law_700 dL_law_701 dL_law_702 dL_law_703 dL_law_704 rfl (by decide) rfl (by omega) hL ?_
        refine az_el (k := 2) (pc2 := 710) hk hX dL_law_705 dL_law_706 dL_law_707 dL_law_708 dL_law_709 rfl (by decide) rfl (by omega) hL ?_
        refine az_el (k := 3) (pc2 := 715) hk hX dL_law_710 dL_law_711 dL_law_712 dL_law_713 dL_law_714 rfl (by decide) rfl (by omega) hL ?_
        refine az_i2l (pc2 := 716) hk dL_law_715 rfl ?_
        refine az_bipush (v := 32) (pc2 := 718) hk dL_law_716 rfl (by decide) ?_
        refine az_lshl (pc2 := 719) hk dL_law_718 rfl ?_
        refine az_el (k := 4) (pc2 := 724) hk hX dL_law_719 dL_law_720 dL_law_721 dL_law_722 dL_law_723 rfl (by decide) rfl (by omega) hL ?_
        refine az_i2l (pc2 := 725) hk dL_law_724 rfl ?_
        refine az_ldc2 (pc2 := 728) hk dL_law_725 rfl kl_L_85 ?_
        refine az_land (pc2 := 729) hk dL_law_728 rfl ?_
        refine az_lor (pc2 := 730) hk dL_law_729 rfl ?_
        refine az_cV (rm2 := rmX7_pay) (pc2 := 733) hk veX7_pay dL_law_730 rfl ml_L_91 ⟨(Nat.le_of_ble_eq_true rfl), (Nat.le_of_ble_eq_true rfl)⟩ [_, _, _] rfl rfl (Nat.le_of_ble_eq_true rfl) (by show 115 + 26 * t + 0 + 0 ≤ 600000; omega) (by show 18421 + 256 * t + 0 + 0 ≤ 7302250; omega) hfs (hC.mono (fun r2 n2 h2 hp2 => ?_))
        obtain ⟨rfl, hS2⟩ := hp2
        show AZ K b _ _ 733 _ [.long x, .long x] n2 h2
        refine az_lcmp (pc2 := 734) hk dL_law_733 rfl ?_
        exact az_if_eq (tgt := 973) (pc2 := 737) hk dL_law_734 (by decide) rfl (fun _ => nxt n2 h2 _ _ hS2 (by show 115 + 26 * t + 0 + 0 ≤ 115 + 26 * (t + 1); omega) (by show 18421 + 256 * t + 0 + 0 ≤ 18421 + 256 * (t + 1); omega)) (fun c9 => absurd (cmp_self x) c9)
      | 17, _ =>
        refine az_tableIn (off := 707) (tgt := 739) hk dL_law_32 (by decide) (by decide) (by decide) (by decide) ?_
        refine az_aload_n (pc2 := 740) hk dL_law_739 rfl rfl ?_
        refine az_el (k := 1) (pc2 := 745) hk hX dL_law_740 dL_law_741 dL_law_742 dL_law_743 dL_law_744 rfl (by decide) rfl (by omega) hL ?_
        refine az_el (k := 2) (pc2 := 750) hk hX dL_law_745 dL_law_746 dL_law_747 dL_law_748 dL_law_749 rfl (by decide) rfl (by omega) hL ?_
        refine az_el (k := 3) (pc2 := 755) hk hX dL_law_750 dL_law_751 dL_law_752 dL_law_753 dL_law_754 rfl (by decide) rfl (by omega) hL ?_
        refine az_cV (rm2 := rmX6_told) (pc2 := 758) hk veX6_told dL_law_755 rfl ml_L_92 ⟨(Nat.le_of_ble_eq_true rfl), (Nat.le_of_ble_eq_true rfl)⟩ [_, _, _] rfl rfl (Nat.le_of_ble_eq_true rfl) (by show 115 + 26 * t + 0 ≤ 600000; omega) (by show 18421 + 256 * t + 0 ≤ 7302250; omega) (o_X6 rfl) ((s_told hSim).mono (fun r n1 h1 hp => ?_))
        obtain ⟨x, rfl, ⟨fs, hfs⟩, hC⟩ := hp
        show AZ K b _ _ 758 _ [.long x] n1 h1
        refine az_aload_n (pc2 := 759) hk dL_law_758 rfl rfl ?_
        refine az_el (k := 1) (pc2 := 764) hk hX dL_law_759 dL_law_760 dL_law_761 dL_law_762 dL_law_763 rfl (by decide) rfl (by omega) hL ?_
        refine az_el (k := 2) (pc2 := 769) hk hX dL_law_764 dL_law_765 dL_law_766 dL_law_767 dL_law_768 rfl (by decide) rfl (by omega) hL ?_
        refine az_el (k := 3) (pc2 := 774) hk hX dL_law_769 dL_law_770 dL_law_771 dL_law_772 dL_law_773 rfl (by decide) rfl (by omega) hL ?_
        refine az_cV (rm2 := rmX7_told) (pc2 := 777) hk veX7_told dL_law_774 rfl ml_L_96 ⟨(Nat.le_of_ble_eq_true rfl), (Nat.le_of_ble_eq_true rfl)⟩ [_, _, _] rfl rfl (Nat.le_of_ble_eq_true rfl) (by show 115 + 26 * t + 0 + 0 ≤ 600000; omega) (by show 18421 + 256 * t + 0 + 0 ≤ 7302250; omega) hfs (hC.mono (fun r2 n2 h2 hp2 => ?_))
        obtain ⟨rfl, hS2⟩ := hp2
        show AZ K b _ _ 777 _ [.long x, .long x] n2 h2
        refine az_lcmp (pc2 := 778) hk dL_law_777 rfl ?_
        exact az_if_eq (tgt := 973) (pc2 := 781) hk dL_law_778 (by decide) rfl (fun _ => nxt n2 h2 _ _ hS2 (by show 115 + 26 * t + 0 + 0 ≤ 115 + 26 * (t + 1); omega) (by show 18421 + 256 * t + 0 + 0 ≤ 18421 + 256 * (t + 1); omega)) (fun c9 => absurd (cmp_self x) c9)
      | 18, _ =>
        refine az_tableIn (off := 751) (tgt := 783) hk dL_law_32 (by decide) (by decide) (by decide) (by decide) ?_
        refine az_aload_n (pc2 := 784) hk dL_law_783 rfl rfl ?_
        refine az_el (k := 1) (pc2 := 789) hk hX dL_law_784 dL_law_785 dL_law_786 dL_law_787 dL_law_788 rfl (by decide) rfl (by omega) hL ?_
        refine az_el (k := 2) (pc2 := 794) hk hX dL_law_789 dL_law_790 dL_law_791 dL_law_792 dL_law_793 rfl (by decide) rfl (by omega) hL ?_
        refine az_el (k := 3) (pc2 := 799) hk hX dL_law_794 dL_law_795 dL_law_796 dL_law_797 dL_law_798 rfl (by decide) rfl (by omega) hL ?_
        refine az_cV (rm2 := rmX6_gets) (pc2 := 802) hk veX6_gets dL_law_799 rfl ml_L_97 ⟨(Nat.le_of_ble_eq_true rfl), (Nat.le_of_ble_eq_true rfl)⟩ [_, _, _] rfl rfl (Nat.le_of_ble_eq_true rfl) (by show 115 + 26 * t + 0 ≤ 600000; omega) (by show 18421 + 256 * t + 0 ≤ 7302250; omega) (o_X6 rfl) ((s_gets hSim).mono (fun r n1 h1 hp => ?_))
        obtain ⟨x, rfl, ⟨fs, hfs⟩, hC⟩ := hp
        show AZ K b _ _ 802 _ [.long x] n1 h1
        refine az_aload_n (pc2 := 803) hk dL_law_802 rfl rfl ?_
        refine az_el (k := 1) (pc2 := 808) hk hX dL_law_803 dL_law_804 dL_law_805 dL_law_806 dL_law_807 rfl (by decide) rfl (by omega) hL ?_
        refine az_el (k := 2) (pc2 := 813) hk hX dL_law_808 dL_law_809 dL_law_810 dL_law_811 dL_law_812 rfl (by decide) rfl (by omega) hL ?_
        refine az_el (k := 3) (pc2 := 818) hk hX dL_law_813 dL_law_814 dL_law_815 dL_law_816 dL_law_817 rfl (by decide) rfl (by omega) hL ?_
        refine az_cV (rm2 := rmX7_gets) (pc2 := 821) hk veX7_gets dL_law_818 rfl ml_L_100 ⟨(Nat.le_of_ble_eq_true rfl), (Nat.le_of_ble_eq_true rfl)⟩ [_, _, _] rfl rfl (Nat.le_of_ble_eq_true rfl) (by show 115 + 26 * t + 0 + 0 ≤ 600000; omega) (by show 18421 + 256 * t + 0 + 0 ≤ 7302250; omega) hfs (hC.mono (fun r2 n2 h2 hp2 => ?_))
        obtain ⟨rfl, hS2⟩ := hp2
        show AZ K b _ _ 821 _ [.long x, .long x] n2 h2
        refine az_lcmp (pc2 := 822) hk dL_law_821 rfl ?_
        exact az_if_eq (tgt := 973) (pc2 := 825) hk dL_law_822 (by decide) rfl (fun _ => nxt n2 h2 _ _ hS2 (by show 115 + 26 * t + 0 + 0 ≤ 115 + 26 * (t + 1); omega) (by show 18421 + 256 * t + 0 + 0 ≤ 18421 + 256 * (t + 1); omega)) (fun c9 => absurd (cmp_self x) c9)
      | 19, _ =>
        refine az_tableIn (off := 795) (tgt := 827) hk dL_law_32 (by decide) (by decide) (by decide) (by decide) ?_
        refine az_aload_n (pc2 := 828) hk dL_law_827 rfl rfl ?_
        refine az_el (k := 1) (pc2 := 833) hk hX dL_law_828 dL_law_829 dL_law_830 dL_law_831 dL_law_832 rfl (by decide) rfl (by omega) hL ?_
        refine az_el (k := 2) (pc2 := 838) hk hX dL_law_833 dL_law_834 dL_law_835 dL_law_836 dL_law_837 rfl (by decide) rfl (by omega) hL ?_
        refine az_el (k := 3) (pc2 := 843) hk hX dL_law_838 dL_law_839 dL_law_840 dL_law_841 dL_law_842 rfl (by decide) rfl (by omega) hL ?_
        refine az_cV (rm2 := rmX6_look) (pc2 := 846) hk veX6_look dL_law_843 rfl ml_L_101 ⟨(Nat.le_of_ble_eq_true rfl), (Nat.le_of_ble_eq_true rfl)⟩ [_, _, _] rfl rfl (Nat.le_of_ble_eq_true rfl) (by show 115 + 26 * t + 0 ≤ 600000; omega) (by show 18421 + 256 * t + 0 ≤ 7302250; omega) (o_X6 rfl) ((s_look hSim).mono (fun r n1 h1 hp => ?_))
        obtain ⟨x, rfl, ⟨fs, hfs⟩, hC⟩ := hp
        show AZ K b _ _ 846 _ [.int x] n1 h1
        refine az_aload_n (pc2 := 847) hk dL_law_846 rfl rfl ?_
        refine az_el (k := 1) (pc2 := 852) hk hX dL_law_847 dL_law_848 dL_law_849 dL_law_850 dL_law_851 rfl (by decide) rfl (by omega) hL ?_
        refine az_el (k := 2) (pc2 := 857) hk hX dL_law_852 dL_law_853 dL_law_854 dL_law_855 dL_law_856 rfl (by decide) rfl (by omega) hL ?_
        refine az_el (k := 3) (pc2 := 862) hk hX dL_law_857 dL_law_858 dL_law_859 dL_law_860 dL_law_861 rfl (by decide) rfl (by omega) hL ?_
        refine az_cV (rm2 := rmX7_look) (pc2 := 865) hk veX7_look dL_law_862 rfl ml_L_104 ⟨(Nat.le_of_ble_eq_true rfl), (Nat.le_of_ble_eq_true rfl)⟩ [_, _, _] rfl rfl (Nat.le_of_ble_eq_true rfl) (by show 115 + 26 * t + 0 + 0 ≤ 600000; omega) (by show 18421 + 256 * t + 0 + 0 ≤ 7302250; omega) hfs (hC.mono (fun r2 n2 h2 hp2 => ?_))
        obtain ⟨rfl, hS2⟩ := hp2
        show AZ K b _ _ 865 _ [.int x, .int x] n2 h2
        exact az_icmp_eq (tgt := 973) (pc2 := 868) hk dL_law_865 (by decide) rfl (fun _ => nxt n2 h2 _ _ hS2 (by show 115 + 26 * t + 0 + 0 ≤ 115 + 26 * (t + 1); omega) (by show 18421 + 256 * t + 0 + 0 ≤ 18421 + 256 * (t + 1); omega)) (fun c9 => absurd rfl c9)
      | 20, _ =>
        refine az_tableIn (off := 838) (tgt := 870) hk dL_law_32 (by decide) (by decide) (by decide) (by decide) ?_
        refine az_aload_n (pc2 := 871) hk dL_law_870 rfl rfl ?_
        refine az_el (k := 1) (pc2 := 876) hk hX dL_law_871 dL_law_872 dL_law_873 dL_law_874 dL_law_875 rfl (by decide) rfl (by omega) hL ?_
        refine az_cV (rm2 := rmX6_pieces) (pc2 := 879) hk veX6_pieces dL_law_876 rfl ml_L_105 ⟨(Nat.le_of_ble_eq_true rfl), (Nat.le_of_ble_eq_true rfl)⟩ [_] rfl rfl (Nat.le_of_ble_eq_true rfl) (by show 115 + 26 * t + 0 ≤ 600000; omega) (by show 18421 + 256 * t + 0 ≤ 7302250; omega) (o_X6 rfl) ((s_pieces hSim).mono (fun r n1 h1 hp => ?_))
        obtain ⟨x, rfl, ⟨fs, hfs⟩, hC⟩ := hp
        show AZ K b _ _ 879 _ [.int x] n1 h1
        refine az_aload_n (pc2 := 880) hk dL_law_879 rfl rfl ?_
        refine az_el (k := 1) (pc2 := 885) hk hX dL_law_880 dL_law_881 dL_law_882 dL_law_883 dL_law_884 rfl (by decide) rfl (by omega) hL ?_
        refine az_cV (rm2 := rmX7_pieces) (pc2 := 888) hk veX7_pieces dL_law_885 rfl ml_L_108 ⟨(Nat.le_of_ble_eq_true rfl), (Nat.le_of_ble_eq_true rfl)⟩ [_] rfl rfl (Nat.le_of_ble_eq_true rfl) (by show 115 + 26 * t + 0 + 0 ≤ 600000; omega) (by show 18421 + 256 * t + 0 + 0 ≤ 7302250; omega) hfs (hC.mono (fun r2 n2 h2 hp2 => ?_))
        obtain ⟨rfl, hS2⟩ := hp2
        show AZ K b _ _ 888 _ [.int x, .int x] n2 h2
        exact az_icmp_eq (tgt := 973) (pc2 := 891) hk dL_law_888 (by decide) rfl (fun _ => nxt n2 h2 _ _ hS2 (by show 115 + 26 * t + 0 + 0 ≤ 115 + 26 * (t + 1); omega) (by show 18421 + 256 * t + 0 + 0 ≤ 18421 + 256 * (t + 1); omega)) (fun c9 => absurd rfl c9)
      | 21, _ =>
        refine az_tableIn (off := 861) (tgt := 893) hk dL_law_32 (by decide) (by decide) (by decide) (by decide) ?_
        refine az_aload_n (pc2 := 894) hk dL_law_893 rfl rfl ?_
        refine az_el (k := 1) (pc2 := 899) hk hX dL_law_894 dL_law_895 dL_law_896 dL_law_897 dL_law_898 rfl (by decide) rfl (by omega) hL ?_
        refine az_el (k := 2) (pc2 := 904) hk hX dL_law_899 dL_law_900 dL_law_901 dL_law_902 dL_law_903 rfl (by decide) rfl (by omega) hL ?_
        refine az_el (k := 3) (pc2 := 909) hk hX dL_law_904 dL_law_905 dL_law_906 dL_law_907 dL_law_908 rfl (by decide) rfl (by omega) hL ?_
        refine az_cV (rm2 := rmX6_piece) (pc2 := 912) hk veX6_piece dL_law_909 rfl ml_L_109 ⟨(Nat.le_of_ble_eq_true rfl), (Nat.le_of_ble_eq_true rfl)⟩ [_, _, _] rfl rfl (Nat.le_of_ble_eq_true rfl) (by show 115 + 26 * t + 0 ≤ 600000; omega) (by show 18421 + 256 * t + 0 ≤ 7302250; omega) (o_X6 rfl) ((s_piece hSim).mono (fun r n1 h1 hp => ?_))
        obtain ⟨x, rfl, ⟨fs, hfs⟩, hC⟩ := hp
        show AZ K b _ _ 912 _ [.int x] n1 h1
        refine az_aload_n (pc2 := 913) hk dL_law_912 rfl rfl ?_
        refine az_el (k := 1) (pc2 := 918) hk hX dL_law_913 dL_law_914 dL_law_915 dL_law_916 dL_law_917 rfl (by decide) rfl (by omega) hL ?_
        refine az_el (k := 2) (pc2 := 923) hk hX dL_law_918 dL_law_919 dL_law_920 dL_law_921 dL_law_922 rfl (by decide) rfl (by omega) hL ?_
        refine az_el (k := 3) (pc2 := 928) hk hX dL_law_923 dL_law_924 dL_law_925 dL_law_926 dL_law_927 rfl (by decide) rfl (by omega) hL ?_
        refine az_cV (rm2 := rmX7_piece) (pc2 := 931) hk veX7_piece dL_law_928 rfl ml_L_112 ⟨(Nat.le_of_ble_eq_true rfl), (Nat.le_of_ble_eq_true rfl)⟩ [_, _, _] rfl rfl (Nat.le_of_ble_eq_true rfl) (by show 115 + 26 * t + 0 + 0 ≤ 600000; omega) (by show 18421 + 256 * t + 0 + 0 ≤ 7302250; omega) hfs (hC.mono (fun r2 n2 h2 hp2 => ?_))
        obtain ⟨rfl, hS2⟩ := hp2
        show AZ K b _ _ 931 _ [.int x, .int x] n2 h2
        exact az_icmp_eq (tgt := 973) (pc2 := 934) hk dL_law_931 (by decide) rfl (fun _ => nxt n2 h2 _ _ hS2 (by show 115 + 26 * t + 0 + 0 ≤ 115 + 26 * (t + 1); omega) (by show 18421 + 256 * t + 0 + 0 ≤ 18421 + 256 * (t + 1); omega)) (fun c9 => absurd rfl c9)
      | 22, _ =>
        refine az_tableIn (off := 904) (tgt := 936) hk dL_law_32 (by decide) (by decide) (by decide) (by decide) ?_
        refine az_aload_n (pc2 := 937) hk dL_law_936 rfl rfl ?_
        refine az_el (k := 1) (pc2 := 942) hk hX dL_law_937 dL_law_938 dL_law_939 dL_law_940 dL_law_941 rfl (by decide) rfl (by omega) hL ?_
        refine az_cV (rm2 := rmX6_count) (pc2 := 945) hk veX6_count dL_law_942 rfl ml_L_113 ⟨(Nat.le_of_ble_eq_true rfl), (Nat.le_of_ble_eq_true rfl)⟩ [_] rfl rfl (Nat.le_of_ble_eq_true rfl) (by show 115 + 26 * t + 0 ≤ 600000; omega) (by show 18421 + 256 * t + 0 ≤ 7302250; omega) (o_X6 rfl) ((s_count hSim).mono (fun r n1 h1 hp => ?_))
        obtain ⟨x, rfl, ⟨fs, hfs⟩, hC⟩ := hp
        show AZ K b _ _ 945 _ [.int x] n1 h1
        refine az_aload_n (pc2 := 946) hk dL_law_945 rfl rfl ?_
        refine az_el (k := 1) (pc2 := 951) hk hX dL_law_946 dL_law_947 dL_law_948 dL_law_949 dL_law_950 rfl (by decide) rfl (by omega) hL ?_
        refine az_cV (rm2 := rmX7_count) (pc2 := 954) hk veX7_count dL_law_951 rfl ml_L_116 ⟨(Nat.le_of_ble_eq_true rfl), (Nat.le_of_ble_eq_true rfl)⟩ [_] rfl rfl (Nat.le_of_ble_eq_true rfl) (by show 115 + 26 * t + 0 + 0 ≤ 600000; omega) (by show 18421 + 256 * t + 0 + 0 ≤ 7302250; omega) hfs (hC.mono (fun r2 n2 h2 hp2 => ?_))
        obtain ⟨rfl, hS2⟩ := hp2
        show AZ K b _ _ 954 _ [.int x, .int x] n2 h2
        exact az_icmp_eq (tgt := 973) (pc2 := 957) hk dL_law_954 (by decide) rfl (fun _ => nxt n2 h2 _ _ hS2 (by show 115 + 26 * t + 0 + 0 ≤ 115 + 26 * (t + 1); omega) (by show 18421 + 256 * t + 0 + 0 ≤ 18421 + 256 * (t + 1); omega)) (fun c9 => absurd rfl c9)
      | 23, _ =>
        refine az_tableIn (off := 927) (tgt := 959) hk dL_law_32 (by decide) (by decide) (by decide) (by decide) ?_
        refine az_aload_n (pc2 := 960) hk dL_law_959 rfl rfl ?_
        refine az_cV (rm2 := rmX6_digest) (pc2 := 963) hk veX6_digest dL_law_960 rfl ml_L_117 ⟨(Nat.le_of_ble_eq_true rfl), (Nat.le_of_ble_eq_true rfl)⟩ [] rfl rfl (Nat.le_of_ble_eq_true rfl) (by show 115 + 26 * t + 0 ≤ 600000; omega) (by show 18421 + 256 * t + 0 ≤ 7302250; omega) (o_X6 rfl) ((s_digest hSim).mono (fun r n1 h1 hp => ?_))
        obtain ⟨x, rfl, ⟨fs, hfs⟩, hC⟩ := hp
        show AZ K b _ _ 963 _ [.long x] n1 h1
        refine az_aload_n (pc2 := 964) hk dL_law_963 rfl rfl ?_
        refine az_cV (rm2 := rmX7_digest) (pc2 := 967) hk veX7_digest dL_law_964 rfl ml_L_120 ⟨(Nat.le_of_ble_eq_true rfl), (Nat.le_of_ble_eq_true rfl)⟩ [] rfl rfl (Nat.le_of_ble_eq_true rfl) (by show 115 + 26 * t + 0 + 0 ≤ 600000; omega) (by show 18421 + 256 * t + 0 + 0 ≤ 7302250; omega) hfs (hC.mono (fun r2 n2 h2 hp2 => ?_))
        obtain ⟨rfl, hS2⟩ := hp2
        show AZ K b _ _ 967 _ [.long x, .long x] n2 h2
        refine az_lcmp (pc2 := 968) hk dL_law_967 rfl ?_
        exact az_if_eq (tgt := 973) (pc2 := 971) hk dL_law_968 (by decide) rfl (fun _ => nxt n2 h2 _ _ hS2 (by show 115 + 26 * t + 0 + 0 ≤ 115 + 26 * (t + 1); omega) (by show 18421 + 256 * t + 0 + 0 ≤ 18421 + 256 * (t + 1); omega)) (fun c9 => absurd (cmp_self x) c9)
      | (v9 + 24), h24 => exact absurd h24 (by omega)
theorem GH_start : hset (fun _ => none) 0 (.inr (6, zfX6)) = GH [.null, .null, .null, .int 0, .null, .null, .null, .int 0, .null, .int 0, .int 0] 1 (fun _ _ => 0) (fun _ _ => 0) (fun _ _ => none) := by
  funext i
  unfold hset GH
  by_cases h : i = 0
  · rw [if_pos h, if_pos h]; rfl
  · rw [if_neg h, if_neg h, if_neg (by omega)]
set_option maxHeartbeats 4000000 in
set_option maxRecDepth 100000 in
theorem whole_start {p : Program} {e : Env} {s : State} {m : MethodId} {below : List Frame} {meth : Method} {c : Code} (l : Launch) {b L : Nat} {xs : Nat → Int32} (hL : L ≤ 2560) (C0 : lw_At p s m meth c b L xs) : W p l e room_1 s m #[Value.ref b] below meth c s.heap [] 0 0 (lw_Z below #[Value.ref b] s) (entryFrame m ([Value.ref b] : List Value).toArray 4) := by
  obtain ⟨D, ac, hE⟩ := env_0 C0
  obtain ⟨hx, hb, hr, hml, hown, hts, hXX, hbl, hlocks, hgv⟩ := id C0
  have hk : OKZ (p, l, e, room_1, s, m, #[Value.ref b], below, meth, c, D, s.heap.size, ac) yL_law cL_law 4 room_1 := ⟨hx, hb, hml, hown, hlocks, rfl, hE⟩
  have hX : XZ (p, l, e, room_1, s, m, #[Value.ref b], below, meth, c, D, s.heap.size, ac) b L xs := ⟨hXX, hbl, hbl, rfl, rfl, hr, rfl, hb, hx, hlocks⟩
  have hAZ : AZ (p, l, e, room_1, s, m, #[Value.ref b], below, meth, c, D, s.heap.size, ac) b 0 0 0 [none, none, none, none] [] 0 (fun _ => none) := by
    generalize (p, l, e, room_1, s, m, #[Value.ref b], below, meth, c, D, s.heap.size, ac) = K at hk hX
    refine az_new (pc2 := 3) hk ckX6 zfX6 dL_law_0 rfl cl_L_7 in_X6 ini_X6 zdX6 znX6 (Nat.le_of_ble_eq_true rfl) (Nat.le_of_ble_eq_true rfl) ?_
    refine az_dup_r (pc2 := 4) hk dL_law_3 rfl ?_
    refine az_cI (rm2 := rmX6_init) (pc2 := 7) hk ieX6_init dL_law_4 rfl ml_L_9 ⟨(Nat.le_of_ble_eq_true rfl), (Nat.le_of_ble_eq_true rfl)⟩ [] rfl rfl (Nat.le_of_ble_eq_true rfl) (Nat.le_of_ble_eq_true rfl) (Nat.le_of_ble_eq_true rfl) (i_X6 GH_start ?_)
    refine az_astore_n (pc2 := 8) hk dL_law_7 rfl (by decide) rfl ?_
    show AZ K b _ _ 8 [_, _, _, _] _ _ _
    refine az_new (pc2 := 11) hk ckX7 zfX7 dL_law_8 rfl cl_L_10 in_X7 ini_X7 zdX7 znX7 (Nat.le_of_ble_eq_true rfl) (Nat.le_of_ble_eq_true rfl) ?_
    refine az_dup_r (pc2 := 12) hk dL_law_11 rfl ?_
    refine az_cI (rm2 := rmX7_init) (pc2 := 15) hk ieX7_init dL_law_12 rfl ml_L_12 ⟨(Nat.le_of_ble_eq_true rfl), (Nat.le_of_ble_eq_true rfl)⟩ [] rfl rfl (Nat.le_of_ble_eq_true rfl) (Nat.le_of_ble_eq_true rfl) (Nat.le_of_ble_eq_true rfl) (i_X7 rfl ?_)
    refine az_astore_n (pc2 := 16) hk dL_law_15 rfl (by decide) rfl ?_
    show AZ K b _ _ 16 [_, _, _, _] _ _ _
    refine az_iconst (v := 0) (pc2 := 17) hk dL_law_16 rfl (by decide) ?_
    refine az_istore_n (pc2 := 18) hk dL_law_17 rfl (by decide) rfl ?_
    show AZ K b _ _ 18 [_, _, _, _] _ _ _
    exact az_widen (Nat.le_of_ble_eq_true rfl) (Nat.le_of_ble_eq_true rfl) (law_loop hk hX hL 513 0 115 _ (by omega) (by omega) sim_0)
  have hl := lv_entry ([.ref b]) (n := 4) (Nat.le_of_ble_eq_true rfl)
  rw [lg_entry_eq]
  generalize (lg_sl ([.ref b]) ++ List.replicate (4 - (lg_sl ([.ref b])).length) Slot.unset).toArray = ls at hl ⊢
  refine hAZ s.heap [] ls ⟨rfl, fun i x hi => by cases hi⟩ va_S.rf ⟨by rw [hml]; exact hl.1, hl.2.1, fun i v hi => ?_⟩ (hl.2.2 (0, .ref b) List.mem_cons_self)
  match i, hi with
  | 0, hi => cases hi
  | 1, hi => cases hi
  | 2, hi => cases hi
  | 3, hi => cases hi
  | i + 4, hi => simp at hi
set_option maxHeartbeats 4000000 in
theorem lw_walk (l : Launch) (b : Addr) (xs : List Int32) : MetFree l x (headSpec (Jvm.Cond.code x code maxLocals ret :: tables_1) room_1) (lw_P b xs) (fun _ _ _ _ _ => True) lw_Q := by
  refine MetFree.of_bodyS (code := code) (maxLocals := maxLocals) (ret := ret) (by decide) ?_ ?_
  · intro args s m h hn
    obtain ⟨meth, c, h1, h2, h3, h4, h5, h6, -, -⟩ := Cond.code_spec hn (atoms_spec (ws := Jvm.Cond.code x code maxLocals ret :: tables_1) h _ List.mem_cons_self)
    exact ⟨meth, c, h1, h2, h3, h4, h5, h6⟩
  · intro p e s m args below meth c s₁ B hml0 hP _
    obtain ⟨rfl, hx, hbd, hgv⟩ := hP
    obtain ⟨scr, harrAt, hlist, hof, hsmall⟩ := hx
    obtain ⟨hcb, hkn, -, -⟩ := State.arrayAt?_spec harrAt
    have hown : s.vm.findClass R_law = some m.cls := findClass_of_methodNamed B.named
    have hts0 : ∀ c ∈ (Jvm.Cond.code x code maxLocals ret :: tables_1), c.before #[Value.ref b] s = true := atoms_spec (ws := Jvm.Cond.code x code maxLocals ret :: tables_1) B.pre
    have hts : ∀ w ∈ lw_tbl, w.before #[Value.ref b] s = true := k2_hts_sels lw_privs (fun w hw => hts0 w (List.mem_cons_of_mem _ hw)) lw_privs_ok
    have hml : c.maxLocals = 4 := B.maxLocals_eq (hts0 _ List.mem_cons_self)
    have X₀ : Stand p l e room_1 s m #[Value.ref b] below meth c s₁ [] 0 0 := Stand.of_body B
    have hh0 : s₁.heap = s.heap := by rw [B.state]; rfl
    have hsz : scr.slots.size = xs.length := by rw [← Array.length_toList, hlist, List.length_map]
    have hval : ∀ j : Nat, j < xs.length → scr.slots[j]? = some (.int (xs.getD j 0)) := fun j hj => by
      rw [← Array.getElem?_toList, hlist]
      simp [hj]
    have hbl : b < s.heap.size := (Array.getElem?_eq_some_iff.mp hcb).1
    have hX : va_X b xs.length (fun j => xs.getD j 0) s s.heap := ⟨scr, hcb, hof, hkn, hsz, hval⟩
    have K : W p l e room_1 s m #[Value.ref b] below meth c s₁.heap [] 0 0 (lw_Z below #[Value.ref b] s) (entryFrame m ([Value.ref b] : List Value).toArray 4) := by
      rw [hh0]
      exact whole_start l hbd ⟨B.exec, B.bytes, B.returns, hml, hown, hts, hX, hbl, B.notSynchronized, hgv⟩
    obtain ⟨t, a1, o, b1, b2, b3⟩ := K s₁ rfl X₀
    exact ⟨t, o, a1, b1, b2, b3⟩
theorem lw_pre_spec {args : Array Value} {s : State} (h : (Jvm.Cond.and given_1 narrow_1).before args s = true) (hr : rest_1_c.before args s = true) : ∃ (b : Addr) (xs : List Int32), lw_P b xs args s := by
  have hs := flat_of_before _ h
  have hq := flat_of_before _ hr
  have hc : (Cond.count 1).before args s = true := hs _ (by decide +kernel)
  have harr : (Cond.arrayOf (.arg 0) .int).before args s = true := hs _ (by decide +kernel)
  have hle : (Cond.le (.length (.arg 0)) (.int 2560)).before args s = true := hs _ (by decide +kernel)
  have hlen : (Cond.isInt (.length (.arg 0))).before args s = true := hq _ (by decide +kernel)
  have hall : (Cond.all (.arg 0) (.isInt (.elem (.arg 0) (.index 0)))).before args s = true := hq _ (by decide +kernel)
  obtain ⟨b, xs, hb, hx⟩ := State.ints_of_pre rfl harr hlen hall
  have hsm : xs.length < 2 ^ 31 := hx.choose_spec.2.2.2
  have hev : (Term.length (.arg 0)).eval args s none [] s = some (.int xs.length.toInt32) := hx.length_eval hb
  have hv := Cond.le_ints hev (show (Term.int 2560).eval args s none [] s = some (.int 2560) from rfl)
  have hd : xs.length.toInt32 ≤ 2560 := by
    simpa [Cond.before, Cond.holds, hv] using hle
  have hN : xs.length ≤ 2560 := (Int32.ofNat_le_ofNat hsm (by decide)).mp (show Int32.ofNat xs.length ≤ Int32.ofNat 2560 from hd)
  exact ⟨b, xs, Cond.one_arg hc (show args[0]? = some (.ref b) from hb), hx, hN, h⟩
theorem lw_comes (l : Launch) : Comes l x (Jvm.Cond.code x code maxLocals ret :: tables_1) room_1 (fun tb e args s => Calls_1 tb e args s ∧ rest_1 tb e args s ∧ Pre_1 tb e args s)
    (fun _ _ args s o t => lw_Q args s o t) := by
  intro p e ha hc hk s m args below hf hfit hheap happ hpre
  obtain ⟨b, xs, hP⟩ := lw_pre_spec hpre.2.2 hpre.2.1
  obtain ⟨k, o, h1, h2, h3, hQ⟩ := lw_walk l b xs p e ha hc hk s m args below hf ((Spec.applies_iff_loose hf).mp happ).1 hP trivial
  exact ⟨k, o, h1, h2, h3, hQ⟩
theorem lw_frame {s t : State} {o : Outcome} {args : Array Value} (h : Framed s o t [] 600000 7302250) :
    Framed s o t (fieldLocs frame_1_writes args s ++ arrayLocs frame_1_arrays args s ++ staticLocs frame_1_statics s) 600000 7302250 := h
theorem lw_limb (L : Cond) (hL : ∀ (args : Array Value) (s t : State), L.after args s (.returned (some (.int 1))) t = true) :
    ArmFor flags0 classFile x code maxLocals ret World_1 tables_1 room_1 Calls_1 rest_1 Pre_1
      (fun tb e a s o t => postC L tb e a s o t ∧ Framed s o t (fieldLocs frame_1_writes a s ++ arrayLocs frame_1_arrays a s ++ staticLocs frame_1_statics s) 600000 7302250) := by
  intro l _ _ _ p e ha hc hk s m args below hf hfit hheap happ hpre
  obtain ⟨k, o, h1, h2, h3, rfl, hF⟩ := lw_comes l p e ha hc hk s m args below hf hfit hheap happ hpre
  exact ⟨k, _, h1, h2, h3, hL args s _, lw_frame hF⟩
theorem i_vc : Claimed_1_1 ∧ Claimed_1_2 := ⟨lw_limb limb_1_1 (fun args s t => by simp [limb_1_1, Cond.after, Cond.holds, Cond.value]), lw_limb limb_1_2 (fun args s t => Cond.after_iff.mpr (by
  first | (rw [show limb_1_2 = Cond.eq .result (.int 1) from rfl, Cond.eq_ints (x := 1) (y := 1) rfl rfl]; simp; done) | (simp [limb_1_2, Cond.value, Term.eval]; done)))⟩
