/-! the law: its cases -/
abbrev mL_law : GM := (yL_law, cL_law, 4, some .boolean)
abbrev lwE (E : GE) (sb L : Nat) (xs : Nat → Int32) : GE := (E.1, E.2.1, E.2.2.1, E.2.2.2.1, fun U H => E.2.2.2.2 U H ∧ va_X sb L xs U H ∧ va_AO "DogsOnLeads$Text" U ∧ va_AO "DogsOnLeads$Sheet" U)
abbrev lwQ : Option Value → va_W → Prop := fun v _ => v = some (.int 1)
theorem lwE_st {E : GE} {sb L : Nat} {xs : Nat → Int32} (hst : g_St E) (hsb : sb < E.2.2.2.1) : g_St (lwE E sb L xs) := by
  intro s U H H' hW hq h
  obtain ⟨h1, h2, h3, h4⟩ := h
  exact ⟨hst s U H H' hW hq h1, (h2.kept (hq sb hsb)).moved hW.alike, h3.moved hW.alike, h4.moved hW.alike⟩
theorem lg_cmp_0 (x : Int64) : (lg_cmp x x).toInt = 0 := by
  unfold lg_cmp
  rw [if_neg (fun h => by have := Int64.lt_iff_toInt_lt.mp h; omega), if_pos rfl]
  rfl
def IB (L : Nat) (x : Int32) : Prop := (0 ≤ (x + 1).toInt ∧ (x + 1).toInt < L) ∧ (0 ≤ (x + 2).toInt ∧ (x + 2).toInt < L) ∧ (0 ≤ (x + 3).toInt ∧ (x + 3).toInt < L) ∧ (0 ≤ (x + 4).toInt ∧ (x + 4).toInt < L) ∧ (0 ≤ (x + 5).toInt ∧ (x + 5).toInt < L)
section S9v0
variable {E : GE} {sb L : Nat} {xs : Nat → Int32} {M : GM} {d mc ms : Nat} {A : Nat → Prop} {Q : Option Value → va_W → Prop} {k n pc : Nat} {ls : List (Option Value)} {st : List Value} {ws : va_W} {a b : Nat → Nat} {X Y : GM} {avX avY : List Value}
theorem g_sld (hsb : sb < E.2.2.2.1) {i : Int32} (hd : decode M.2.1 pc = .ok (.iaload, 1)) (hi : 0 ≤ i.toInt ∧ i.toInt < L) (kk : G (lwE E sb L xs) M d mc ms A Q k n (pc + 1) ls (.int (xs i.toInt.toNat) :: st) ws) : G (lwE E sb L xs) M d mc ms A Q k n pc ls (.int i :: .ref sb :: st) ws := by
  intro p e s m args below meth c H locs ls0 hc hP hD hS hl
  obtain ⟨-, hX, -, -⟩ := hc.2.2.2.2.2.2.2.2.1
  exact va_sld hc.1 hc.2.1 hX (Nat.lt_of_lt_of_le hsb hc.2.2.2.2.2.2.2.2.2.2.2.1) (fun hA => Nat.not_le.mpr hsb (hc.2.2.2.2.2.2.2.2.2.1 _ hA)) hS (g_vin hi) hd (kk p e s m args below meth c H locs ls0 hc hP hD hS hl)
theorem g_slen (hsb : sb < E.2.2.2.1) (hd : decode M.2.1 pc = .ok (.arraylength, 1)) (kk : G (lwE E sb L xs) M d mc ms A Q k n (pc + 1) ls (.int (Int32.ofNat L) :: st) ws) : G (lwE E sb L xs) M d mc ms A Q k n pc ls (.ref sb :: st) ws := by
  intro p e s m args below meth c H locs ls0 hc hP hD hS hl
  obtain ⟨-, hX, -, -⟩ := hc.2.2.2.2.2.2.2.2.1
  exact va_slen hc.1 hc.2.1 hX (Nat.lt_of_lt_of_le hsb hc.2.2.2.2.2.2.2.2.2.2.2.1) (fun hA => Nat.not_le.mpr hsb (hc.2.2.2.2.2.2.2.2.2.1 _ hA)) hS hd (kk p e s m args below meth c H locs ls0 hc hP hD hS hl)
theorem PRi.to (pr : PRi E a b X avX Y avY ws) : (∃ (i : Nat) (fs : List Value), ws[i]? = some (a 0, .inr (6, fs))) ∧ g_Ci (lwE E sb L xs) X 1749 avX ws (fun z w => (∃ (i : Nat) (fs : List Value), w[i]? = some (b 0, .inr (7, fs))) ∧ g_Ci (lwE E sb L xs) Y 1749 avY w (fun z' w' => z' = z ∧ LW E a b w')) :=
  ⟨pr.1, g_Ci.post (g_cE (fun _ _ h => h.1) pr.2) (fun z w hq => ⟨hq.1, g_cE (fun _ _ h => h.1) hq.2⟩)⟩
theorem PRl.to (pr : PRl E a b X avX Y avY ws) : (∃ (i : Nat) (fs : List Value), ws[i]? = some (a 0, .inr (6, fs))) ∧ g_Cl (lwE E sb L xs) X 1749 avX ws (fun z w => (∃ (i : Nat) (fs : List Value), w[i]? = some (b 0, .inr (7, fs))) ∧ g_Cl (lwE E sb L xs) Y 1749 avY w (fun z' w' => z' = z ∧ LW E a b w')) :=
  ⟨pr.1, g_Cl.post (g_cE (fun _ _ h => h.1) pr.2) (fun z w hq => ⟨hq.1, g_cE (fun _ _ h => h.1) hq.2⟩)⟩
end S9v0
section S9v
variable {E : GE} {adK adV ta a b : Nat → Nat} {sb L : Nat} {xs : Nat → Int32} {A : Nat → Prop} {x3 : Int32} {ws : va_W}
set_option maxHeartbeats 1000000 in
theorem lc_dog (hE : g_E E adK adV ta) (hsb : sb < E.2.2.2.1) (hI : IB L x3) (h : LW E a b ws) (kk : ∀ ws', LW E a b ws' → G (lwE E sb L xs) mL_law 1750 600000 7302250 A lwQ 113 5607 1231 [some (.ref sb), some (.ref (a 0)), some (.ref (b 0)), some (.int x3)] [] ws') : G (lwE E sb L xs) mL_law 1750 600000 7302250 A lwQ 113 5607 192 [some (.ref sb), some (.ref (a 0)), some (.ref (b 0)), some (.int x3)] [] ws := by
  obtain ⟨⟨i1, fs1, he1⟩, hc1⟩ := PRi.to (sb := sb) (L := L) (xs := xs) (p_dog hE h (xs (x3 + 1).toInt.toNat) (xs (x3 + 2).toInt.toNat) (xs (x3 + 3).toInt.toNat))
  refine g_aload1 dL_law_192 (g_aload0 dL_law_193 (g_iload3 dL_law_194 (g_iconst ki_1 dL_law_195 (g_iadd dL_law_196 (g_sld hsb dL_law_197 hI.1 (g_aload0 dL_law_198 (g_iload3 dL_law_199 (g_iconst ki_2 dL_law_200 (g_iadd dL_law_201 (g_sld hsb dL_law_202 hI.2.1 (g_aload0 dL_law_203 (g_iload3 dL_law_204 (g_iconst ki_3 dL_law_205 (g_iadd dL_law_206 (g_sld hsb dL_law_207 hI.2.2.1 (?_))))))))))))))))
  refine g_V3i dL_law_208 mv_L_13 i1 he1 rfl rfl (Nat.le_of_ble_eq_true rfl) (Nat.le_of_ble_eq_true rfl) hc1 (fun r1 w1 hq => ?_)
  obtain ⟨⟨i2, fs2, he2⟩, hc2⟩ := hq
  refine g_aload2 dL_law_211 (g_aload0 dL_law_212 (g_iload3 dL_law_213 (g_iconst ki_1 dL_law_214 (g_iadd dL_law_215 (g_sld hsb dL_law_216 hI.1 (g_aload0 dL_law_217 (g_iload3 dL_law_218 (g_iconst ki_2 dL_law_219 (g_iadd dL_law_220 (g_sld hsb dL_law_221 hI.2.1 (g_aload0 dL_law_222 (g_iload3 dL_law_223 (g_iconst ki_3 dL_law_224 (g_iadd dL_law_225 (g_sld hsb dL_law_226 hI.2.2.1 (?_))))))))))))))))
  refine g_V3i dL_law_227 mv_L_17 i2 he2 rfl rfl (Nat.le_of_ble_eq_true rfl) (Nat.le_of_ble_eq_true rfl) hc2 (fun r2 w2 hq => ?_)
  obtain ⟨rfl, hw⟩ := hq
  exact g_icmp_eq (tgt := 1231) dL_law_230 (by decide) (fun _ => kk _ hw) (fun q => absurd rfl q)
set_option maxHeartbeats 1000000 in
theorem lc_set (hE : g_E E adK adV ta) (hsb : sb < E.2.2.2.1) (hI : IB L x3) (h : LW E a b ws) (kk : ∀ ws', LW E a b ws' → G (lwE E sb L xs) mL_law 1750 600000 7302250 A lwQ 113 5607 1231 [some (.ref sb), some (.ref (a 0)), some (.ref (b 0)), some (.int x3)] [] ws') : G (lwE E sb L xs) mL_law 1750 600000 7302250 A lwQ 113 5607 235 [some (.ref sb), some (.ref (a 0)), some (.ref (b 0)), some (.int x3)] [] ws := by
  obtain ⟨⟨i1, fs1, he1⟩, hc1⟩ := PRi.to (sb := sb) (L := L) (xs := xs) (p_set hE h (xs (x3 + 1).toInt.toNat) (xs (x3 + 2).toInt.toNat) (xs (x3 + 3).toInt.toNat))
  refine g_aload1 dL_law_235 (g_aload0 dL_law_236 (g_iload3 dL_law_237 (g_iconst ki_1 dL_law_238 (g_iadd dL_law_239 (g_sld hsb dL_law_240 hI.1 (g_aload0 dL_law_241 (g_iload3 dL_law_242 (g_iconst ki_2 dL_law_243 (g_iadd dL_law_244 (g_sld hsb dL_law_245 hI.2.1 (g_aload0 dL_law_246 (g_iload3 dL_law_247 (g_iconst ki_3 dL_law_248 (g_iadd dL_law_249 (g_sld hsb dL_law_250 hI.2.2.1 (?_))))))))))))))))
  refine g_V3i dL_law_251 mv_L_18 i1 he1 rfl rfl (Nat.le_of_ble_eq_true rfl) (Nat.le_of_ble_eq_true rfl) hc1 (fun r1 w1 hq => ?_)
  obtain ⟨⟨i2, fs2, he2⟩, hc2⟩ := hq
  refine g_aload2 dL_law_254 (g_aload0 dL_law_255 (g_iload3 dL_law_256 (g_iconst ki_1 dL_law_257 (g_iadd dL_law_258 (g_sld hsb dL_law_259 hI.1 (g_aload0 dL_law_260 (g_iload3 dL_law_261 (g_iconst ki_2 dL_law_262 (g_iadd dL_law_263 (g_sld hsb dL_law_264 hI.2.1 (g_aload0 dL_law_265 (g_iload3 dL_law_266 (g_iconst ki_3 dL_law_267 (g_iadd dL_law_268 (g_sld hsb dL_law_269 hI.2.2.1 (?_))))))))))))))))
  refine g_V3i dL_law_270 mv_L_21 i2 he2 rfl rfl (Nat.le_of_ble_eq_true rfl) (Nat.le_of_ble_eq_true rfl) hc2 (fun r2 w2 hq => ?_)
  obtain ⟨rfl, hw⟩ := hq
  exact g_icmp_eq (tgt := 1231) dL_law_273 (by decide) (fun _ => kk _ hw) (fun q => absurd rfl q)
set_option maxHeartbeats 1000000 in
theorem lc_told (hE : g_E E adK adV ta) (hsb : sb < E.2.2.2.1) (hI : IB L x3) (h : LW E a b ws) (kk : ∀ ws', LW E a b ws' → G (lwE E sb L xs) mL_law 1750 600000 7302250 A lwQ 113 5607 1231 [some (.ref sb), some (.ref (a 0)), some (.ref (b 0)), some (.int x3)] [] ws') : G (lwE E sb L xs) mL_law 1750 600000 7302250 A lwQ 113 5607 278 [some (.ref sb), some (.ref (a 0)), some (.ref (b 0)), some (.int x3)] [] ws := by
  obtain ⟨⟨i1, fs1, he1⟩, hc1⟩ := PRi.to (sb := sb) (L := L) (xs := xs) (p_told hE h (xs (x3 + 1).toInt.toNat) (xs (x3 + 2).toInt.toNat))
  refine g_aload1 dL_law_278 (g_aload0 dL_law_279 (g_iload3 dL_law_280 (g_iconst ki_1 dL_law_281 (g_iadd dL_law_282 (g_sld hsb dL_law_283 hI.1 (g_aload0 dL_law_284 (g_iload3 dL_law_285 (g_iconst ki_2 dL_law_286 (g_iadd dL_law_287 (g_sld hsb dL_law_288 hI.2.1 (?_)))))))))))
  refine g_V2i dL_law_289 mv_L_22 i1 he1 rfl rfl (Nat.le_of_ble_eq_true rfl) (Nat.le_of_ble_eq_true rfl) hc1 (fun r1 w1 hq => ?_)
  obtain ⟨⟨i2, fs2, he2⟩, hc2⟩ := hq
  refine g_aload2 dL_law_292 (g_aload0 dL_law_293 (g_iload3 dL_law_294 (g_iconst ki_1 dL_law_295 (g_iadd dL_law_296 (g_sld hsb dL_law_297 hI.1 (g_aload0 dL_law_298 (g_iload3 dL_law_299 (g_iconst ki_2 dL_law_300 (g_iadd dL_law_301 (g_sld hsb dL_law_302 hI.2.1 (?_)))))))))))
  refine g_V2i dL_law_303 mv_L_26 i2 he2 rfl rfl (Nat.le_of_ble_eq_true rfl) (Nat.le_of_ble_eq_true rfl) hc2 (fun r2 w2 hq => ?_)
  obtain ⟨rfl, hw⟩ := hq
  exact g_icmp_eq (tgt := 1231) dL_law_306 (by decide) (fun _ => kk _ hw) (fun q => absurd rfl q)
set_option maxHeartbeats 1000000 in
theorem lc_asks (hE : g_E E adK adV ta) (hsb : sb < E.2.2.2.1) (hI : IB L x3) (h : LW E a b ws) (kk : ∀ ws', LW E a b ws' → G (lwE E sb L xs) mL_law 1750 600000 7302250 A lwQ 113 5607 1231 [some (.ref sb), some (.ref (a 0)), some (.ref (b 0)), some (.int x3)] [] ws') : G (lwE E sb L xs) mL_law 1750 600000 7302250 A lwQ 113 5607 311 [some (.ref sb), some (.ref (a 0)), some (.ref (b 0)), some (.int x3)] [] ws := by
  obtain ⟨⟨i1, fs1, he1⟩, hc1⟩ := PRi.to (sb := sb) (L := L) (xs := xs) (p_asks hE h (xs (x3 + 1).toInt.toNat) (xs (x3 + 2).toInt.toNat) (xs (x3 + 3).toInt.toNat))
  refine g_aload1 dL_law_311 (g_aload0 dL_law_312 (g_iload3 dL_law_313 (g_iconst ki_1 dL_law_314 (g_iadd dL_law_315 (g_sld hsb dL_law_316 hI.1 (g_aload0 dL_law_317 (g_iload3 dL_law_318 (g_iconst ki_2 dL_law_319 (g_iadd dL_law_320 (g_sld hsb dL_law_321 hI.2.1 (g_aload0 dL_law_322 (g_iload3 dL_law_323 (g_iconst ki_3 dL_law_324 (g_iadd dL_law_325 (g_sld hsb dL_law_326 hI.2.2.1 (?_))))))))))))))))
  refine g_V3i dL_law_327 mv_L_27 i1 he1 rfl rfl (Nat.le_of_ble_eq_true rfl) (Nat.le_of_ble_eq_true rfl) hc1 (fun r1 w1 hq => ?_)
  obtain ⟨⟨i2, fs2, he2⟩, hc2⟩ := hq
  refine g_aload2 dL_law_330 (g_aload0 dL_law_331 (g_iload3 dL_law_332 (g_iconst ki_1 dL_law_333 (g_iadd dL_law_334 (g_sld hsb dL_law_335 hI.1 (g_aload0 dL_law_336 (g_iload3 dL_law_337 (g_iconst ki_2 dL_law_338 (g_iadd dL_law_339 (g_sld hsb dL_law_340 hI.2.1 (g_aload0 dL_law_341 (g_iload3 dL_law_342 (g_iconst ki_3 dL_law_343 (g_iadd dL_law_344 (g_sld hsb dL_law_345 hI.2.2.1 (?_))))))))))))))))
  refine g_V3i dL_law_346 mv_L_30 i2 he2 rfl rfl (Nat.le_of_ble_eq_true rfl) (Nat.le_of_ble_eq_true rfl) hc2 (fun r2 w2 hq => ?_)
  obtain ⟨rfl, hw⟩ := hq
  exact g_icmp_eq (tgt := 1231) dL_law_349 (by decide) (fun _ => kk _ hw) (fun q => absurd rfl q)
set_option maxHeartbeats 1000000 in
theorem lc_feed (hE : g_E E adK adV ta) (hsb : sb < E.2.2.2.1) (hI : IB L x3) (h : LW E a b ws) (kk : ∀ ws', LW E a b ws' → G (lwE E sb L xs) mL_law 1750 600000 7302250 A lwQ 113 5607 1231 [some (.ref sb), some (.ref (a 0)), some (.ref (b 0)), some (.int x3)] [] ws') : G (lwE E sb L xs) mL_law 1750 600000 7302250 A lwQ 113 5607 354 [some (.ref sb), some (.ref (a 0)), some (.ref (b 0)), some (.int x3)] [] ws := by
  obtain ⟨⟨i1, fs1, he1⟩, hc1⟩ := PRi.to (sb := sb) (L := L) (xs := xs) (p_feed hE h (xs (x3 + 1).toInt.toNat))
  refine g_aload1 dL_law_354 (g_aload0 dL_law_355 (g_iload3 dL_law_356 (g_iconst ki_1 dL_law_357 (g_iadd dL_law_358 (g_sld hsb dL_law_359 hI.1 (?_))))))
  refine g_V1i dL_law_360 mv_L_31 i1 he1 rfl rfl (Nat.le_of_ble_eq_true rfl) (Nat.le_of_ble_eq_true rfl) hc1 (fun r1 w1 hq => ?_)
  obtain ⟨⟨i2, fs2, he2⟩, hc2⟩ := hq
  refine g_aload2 dL_law_363 (g_aload0 dL_law_364 (g_iload3 dL_law_365 (g_iconst ki_1 dL_law_366 (g_iadd dL_law_367 (g_sld hsb dL_law_368 hI.1 (?_))))))
  refine g_V1i dL_law_369 mv_L_35 i2 he2 rfl rfl (Nat.le_of_ble_eq_true rfl) (Nat.le_of_ble_eq_true rfl) hc2 (fun r2 w2 hq => ?_)
  obtain ⟨rfl, hw⟩ := hq
  exact g_icmp_eq (tgt := 1231) dL_law_372 (by decide) (fun _ => kk _ hw) (fun q => absurd rfl q)
set_option maxHeartbeats 1000000 in
theorem lc_text (hE : g_E E adK adV ta) (hsb : sb < E.2.2.2.1) (hI : IB L x3) (h : LW E a b ws) (kk : ∀ ws', LW E a b ws' → G (lwE E sb L xs) mL_law 1750 600000 7302250 A lwQ 113 5607 1231 [some (.ref sb), some (.ref (a 0)), some (.ref (b 0)), some (.int x3)] [] ws') : G (lwE E sb L xs) mL_law 1750 600000 7302250 A lwQ 113 5607 377 [some (.ref sb), some (.ref (a 0)), some (.ref (b 0)), some (.int x3)] [] ws := by
  obtain ⟨⟨i1, fs1, he1⟩, hc1⟩ := PRi.to (sb := sb) (L := L) (xs := xs) (p_text hE h)
  refine g_aload1 dL_law_377 (?_)
  refine g_V0i dL_law_378 mv_L_36 i1 he1 rfl rfl (Nat.le_of_ble_eq_true rfl) (Nat.le_of_ble_eq_true rfl) hc1 (fun r1 w1 hq => ?_)
  obtain ⟨⟨i2, fs2, he2⟩, hc2⟩ := hq
  refine g_aload2 dL_law_381 (?_)
  refine g_V0i dL_law_382 mv_L_40 i2 he2 rfl rfl (Nat.le_of_ble_eq_true rfl) (Nat.le_of_ble_eq_true rfl) hc2 (fun r2 w2 hq => ?_)
  obtain ⟨rfl, hw⟩ := hq
  exact g_icmp_eq (tgt := 1231) dL_law_385 (by decide) (fun _ => kk _ hw) (fun q => absurd rfl q)
set_option maxHeartbeats 1000000 in
theorem lc_force (hE : g_E E adK adV ta) (hsb : sb < E.2.2.2.1) (hI : IB L x3) (h : LW E a b ws) (kk : ∀ ws', LW E a b ws' → G (lwE E sb L xs) mL_law 1750 600000 7302250 A lwQ 113 5607 1231 [some (.ref sb), some (.ref (a 0)), some (.ref (b 0)), some (.int x3)] [] ws') : G (lwE E sb L xs) mL_law 1750 600000 7302250 A lwQ 113 5607 390 [some (.ref sb), some (.ref (a 0)), some (.ref (b 0)), some (.int x3)] [] ws := by
  obtain ⟨⟨i1, fs1, he1⟩, hc1⟩ := PRi.to (sb := sb) (L := L) (xs := xs) (p_force hE h (xs (x3 + 1).toInt.toNat))
  refine g_aload1 dL_law_390 (g_aload0 dL_law_391 (g_iload3 dL_law_392 (g_iconst ki_1 dL_law_393 (g_iadd dL_law_394 (g_sld hsb dL_law_395 hI.1 (?_))))))
  refine g_V1i dL_law_396 mv_L_41 i1 he1 rfl rfl (Nat.le_of_ble_eq_true rfl) (Nat.le_of_ble_eq_true rfl) hc1 (fun r1 w1 hq => ?_)
  obtain ⟨⟨i2, fs2, he2⟩, hc2⟩ := hq
  refine g_aload2 dL_law_399 (g_aload0 dL_law_400 (g_iload3 dL_law_401 (g_iconst ki_1 dL_law_402 (g_iadd dL_law_403 (g_sld hsb dL_law_404 hI.1 (?_))))))
  refine g_V1i dL_law_405 mv_L_44 i2 he2 rfl rfl (Nat.le_of_ble_eq_true rfl) (Nat.le_of_ble_eq_true rfl) hc2 (fun r2 w2 hq => ?_)
  obtain ⟨rfl, hw⟩ := hq
  exact g_icmp_eq (tgt := 1231) dL_law_408 (by decide) (fun _ => kk _ hw) (fun q => absurd rfl q)
set_option maxHeartbeats 1000000 in
theorem lc_cross (hE : g_E E adK adV ta) (hsb : sb < E.2.2.2.1) (hI : IB L x3) (h : LW E a b ws) (kk : ∀ ws', LW E a b ws' → G (lwE E sb L xs) mL_law 1750 600000 7302250 A lwQ 113 5607 1231 [some (.ref sb), some (.ref (a 0)), some (.ref (b 0)), some (.int x3)] [] ws') : G (lwE E sb L xs) mL_law 1750 600000 7302250 A lwQ 113 5607 413 [some (.ref sb), some (.ref (a 0)), some (.ref (b 0)), some (.int x3)] [] ws := by
  obtain ⟨⟨i1, fs1, he1⟩, hc1⟩ := PRi.to (sb := sb) (L := L) (xs := xs) (p_cross hE h (xs (x3 + 1).toInt.toNat) (xs (x3 + 2).toInt.toNat))
  refine g_aload1 dL_law_413 (g_aload0 dL_law_414 (g_iload3 dL_law_415 (g_iconst ki_1 dL_law_416 (g_iadd dL_law_417 (g_sld hsb dL_law_418 hI.1 (g_aload0 dL_law_419 (g_iload3 dL_law_420 (g_iconst ki_2 dL_law_421 (g_iadd dL_law_422 (g_sld hsb dL_law_423 hI.2.1 (?_)))))))))))
  refine g_V2i dL_law_424 mv_L_45 i1 he1 rfl rfl (Nat.le_of_ble_eq_true rfl) (Nat.le_of_ble_eq_true rfl) hc1 (fun r1 w1 hq => ?_)
  obtain ⟨⟨i2, fs2, he2⟩, hc2⟩ := hq
  refine g_aload2 dL_law_427 (g_aload0 dL_law_428 (g_iload3 dL_law_429 (g_iconst ki_1 dL_law_430 (g_iadd dL_law_431 (g_sld hsb dL_law_432 hI.1 (g_aload0 dL_law_433 (g_iload3 dL_law_434 (g_iconst ki_2 dL_law_435 (g_iadd dL_law_436 (g_sld hsb dL_law_437 hI.2.1 (?_)))))))))))
  refine g_V2i dL_law_438 mv_L_48 i2 he2 rfl rfl (Nat.le_of_ble_eq_true rfl) (Nat.le_of_ble_eq_true rfl) hc2 (fun r2 w2 hq => ?_)
  obtain ⟨rfl, hw⟩ := hq
  exact g_icmp_eq (tgt := 1231) dL_law_441 (by decide) (fun _ => kk _ hw) (fun q => absurd rfl q)
set_option maxHeartbeats 1000000 in
theorem lc_undo (hE : g_E E adK adV ta) (hsb : sb < E.2.2.2.1) (hI : IB L x3) (h : LW E a b ws) (kk : ∀ ws', LW E a b ws' → G (lwE E sb L xs) mL_law 1750 600000 7302250 A lwQ 113 5607 1231 [some (.ref sb), some (.ref (a 0)), some (.ref (b 0)), some (.int x3)] [] ws') : G (lwE E sb L xs) mL_law 1750 600000 7302250 A lwQ 113 5607 446 [some (.ref sb), some (.ref (a 0)), some (.ref (b 0)), some (.int x3)] [] ws := by
  obtain ⟨⟨i1, fs1, he1⟩, hc1⟩ := PRi.to (sb := sb) (L := L) (xs := xs) (p_undo hE h)
  refine g_aload1 dL_law_446 (?_)
  refine g_V0i dL_law_447 mv_L_49 i1 he1 rfl rfl (Nat.le_of_ble_eq_true rfl) (Nat.le_of_ble_eq_true rfl) hc1 (fun r1 w1 hq => ?_)
  obtain ⟨⟨i2, fs2, he2⟩, hc2⟩ := hq
  refine g_aload2 dL_law_450 (?_)
  refine g_V0i dL_law_451 mv_L_52 i2 he2 rfl rfl (Nat.le_of_ble_eq_true rfl) (Nat.le_of_ble_eq_true rfl) hc2 (fun r2 w2 hq => ?_)
  obtain ⟨rfl, hw⟩ := hq
  exact g_icmp_eq (tgt := 1231) dL_law_454 (by decide) (fun _ => kk _ hw) (fun q => absurd rfl q)
set_option maxHeartbeats 1000000 in
theorem lc_comb (hE : g_E E adK adV ta) (hsb : sb < E.2.2.2.1) (hI : IB L x3) (h : LW E a b ws) (kk : ∀ ws', LW E a b ws' → G (lwE E sb L xs) mL_law 1750 600000 7302250 A lwQ 113 5607 1231 [some (.ref sb), some (.ref (a 0)), some (.ref (b 0)), some (.int x3)] [] ws') : G (lwE E sb L xs) mL_law 1750 600000 7302250 A lwQ 113 5607 459 [some (.ref sb), some (.ref (a 0)), some (.ref (b 0)), some (.int x3)] [] ws := by
  obtain ⟨⟨i1, fs1, he1⟩, hc1⟩ := PRi.to (sb := sb) (L := L) (xs := xs) (p_comb hE h)
  refine g_aload1 dL_law_459 (?_)
  refine g_V0i dL_law_460 mv_L_53 i1 he1 rfl rfl (Nat.le_of_ble_eq_true rfl) (Nat.le_of_ble_eq_true rfl) hc1 (fun r1 w1 hq => ?_)
  obtain ⟨⟨i2, fs2, he2⟩, hc2⟩ := hq
  refine g_aload2 dL_law_463 (?_)
  refine g_V0i dL_law_464 mv_L_56 i2 he2 rfl rfl (Nat.le_of_ble_eq_true rfl) (Nat.le_of_ble_eq_true rfl) hc2 (fun r2 w2 hq => ?_)
  obtain ⟨rfl, hw⟩ := hq
  exact g_icmp_eq (tgt := 1231) dL_law_467 (by decide) (fun _ => kk _ hw) (fun q => absurd rfl q)
set_option maxHeartbeats 1000000 in
theorem lc_at (hE : g_E E adK adV ta) (hsb : sb < E.2.2.2.1) (hI : IB L x3) (h : LW E a b ws) (kk : ∀ ws', LW E a b ws' → G (lwE E sb L xs) mL_law 1750 600000 7302250 A lwQ 113 5607 1231 [some (.ref sb), some (.ref (a 0)), some (.ref (b 0)), some (.int x3)] [] ws') : G (lwE E sb L xs) mL_law 1750 600000 7302250 A lwQ 113 5607 472 [some (.ref sb), some (.ref (a 0)), some (.ref (b 0)), some (.int x3)] [] ws := by
  obtain ⟨⟨i1, fs1, he1⟩, hc1⟩ := PRi.to (sb := sb) (L := L) (xs := xs) (p_at hE h (xs (x3 + 1).toInt.toNat))
  refine g_aload1 dL_law_472 (g_aload0 dL_law_473 (g_iload3 dL_law_474 (g_iconst ki_1 dL_law_475 (g_iadd dL_law_476 (g_sld hsb dL_law_477 hI.1 (?_))))))
  refine g_V1i dL_law_478 mv_L_57 i1 he1 rfl rfl (Nat.le_of_ble_eq_true rfl) (Nat.le_of_ble_eq_true rfl) hc1 (fun r1 w1 hq => ?_)
  obtain ⟨⟨i2, fs2, he2⟩, hc2⟩ := hq
  refine g_aload2 dL_law_481 (g_aload0 dL_law_482 (g_iload3 dL_law_483 (g_iconst ki_1 dL_law_484 (g_iadd dL_law_485 (g_sld hsb dL_law_486 hI.1 (?_))))))
  refine g_V1i dL_law_487 mv_L_60 i2 he2 rfl rfl (Nat.le_of_ble_eq_true rfl) (Nat.le_of_ble_eq_true rfl) hc2 (fun r2 w2 hq => ?_)
  obtain ⟨rfl, hw⟩ := hq
  exact g_icmp_eq (tgt := 1231) dL_law_490 (by decide) (fun _ => kk _ hw) (fun q => absurd rfl q)
set_option maxHeartbeats 1000000 in
theorem lc_left (hE : g_E E adK adV ta) (hsb : sb < E.2.2.2.1) (hI : IB L x3) (h : LW E a b ws) (kk : ∀ ws', LW E a b ws' → G (lwE E sb L xs) mL_law 1750 600000 7302250 A lwQ 113 5607 1231 [some (.ref sb), some (.ref (a 0)), some (.ref (b 0)), some (.int x3)] [] ws') : G (lwE E sb L xs) mL_law 1750 600000 7302250 A lwQ 113 5607 495 [some (.ref sb), some (.ref (a 0)), some (.ref (b 0)), some (.int x3)] [] ws := by
  obtain ⟨⟨i1, fs1, he1⟩, hc1⟩ := PRi.to (sb := sb) (L := L) (xs := xs) (p_left hE h (xs (x3 + 1).toInt.toNat))
  refine g_aload1 dL_law_495 (g_aload0 dL_law_496 (g_iload3 dL_law_497 (g_iconst ki_1 dL_law_498 (g_iadd dL_law_499 (g_sld hsb dL_law_500 hI.1 (?_))))))
  refine g_V1i dL_law_501 mv_L_61 i1 he1 rfl rfl (Nat.le_of_ble_eq_true rfl) (Nat.le_of_ble_eq_true rfl) hc1 (fun r1 w1 hq => ?_)
  obtain ⟨⟨i2, fs2, he2⟩, hc2⟩ := hq
  refine g_aload2 dL_law_504 (g_aload0 dL_law_505 (g_iload3 dL_law_506 (g_iconst ki_1 dL_law_507 (g_iadd dL_law_508 (g_sld hsb dL_law_509 hI.1 (?_))))))
  refine g_V1i dL_law_510 mv_L_64 i2 he2 rfl rfl (Nat.le_of_ble_eq_true rfl) (Nat.le_of_ble_eq_true rfl) hc2 (fun r2 w2 hq => ?_)
  obtain ⟨rfl, hw⟩ := hq
  exact g_icmp_eq (tgt := 1231) dL_law_513 (by decide) (fun _ => kk _ hw) (fun q => absurd rfl q)
set_option maxHeartbeats 1000000 in
theorem lc_who (hE : g_E E adK adV ta) (hsb : sb < E.2.2.2.1) (hI : IB L x3) (h : LW E a b ws) (kk : ∀ ws', LW E a b ws' → G (lwE E sb L xs) mL_law 1750 600000 7302250 A lwQ 113 5607 1231 [some (.ref sb), some (.ref (a 0)), some (.ref (b 0)), some (.int x3)] [] ws') : G (lwE E sb L xs) mL_law 1750 600000 7302250 A lwQ 113 5607 518 [some (.ref sb), some (.ref (a 0)), some (.ref (b 0)), some (.int x3)] [] ws := by
  obtain ⟨⟨i1, fs1, he1⟩, hc1⟩ := PRi.to (sb := sb) (L := L) (xs := xs) (p_who hE h (xs (x3 + 1).toInt.toNat) (xs (x3 + 2).toInt.toNat))
  refine g_aload1 dL_law_518 (g_aload0 dL_law_519 (g_iload3 dL_law_520 (g_iconst ki_1 dL_law_521 (g_iadd dL_law_522 (g_sld hsb dL_law_523 hI.1 (g_aload0 dL_law_524 (g_iload3 dL_law_525 (g_iconst ki_2 dL_law_526 (g_iadd dL_law_527 (g_sld hsb dL_law_528 hI.2.1 (?_)))))))))))
  refine g_V2i dL_law_529 mv_L_65 i1 he1 rfl rfl (Nat.le_of_ble_eq_true rfl) (Nat.le_of_ble_eq_true rfl) hc1 (fun r1 w1 hq => ?_)
  obtain ⟨⟨i2, fs2, he2⟩, hc2⟩ := hq
  refine g_aload2 dL_law_532 (g_aload0 dL_law_533 (g_iload3 dL_law_534 (g_iconst ki_1 dL_law_535 (g_iadd dL_law_536 (g_sld hsb dL_law_537 hI.1 (g_aload0 dL_law_538 (g_iload3 dL_law_539 (g_iconst ki_2 dL_law_540 (g_iadd dL_law_541 (g_sld hsb dL_law_542 hI.2.1 (?_)))))))))))
  refine g_V2i dL_law_543 mv_L_68 i2 he2 rfl rfl (Nat.le_of_ble_eq_true rfl) (Nat.le_of_ble_eq_true rfl) hc2 (fun r2 w2 hq => ?_)
  obtain ⟨rfl, hw⟩ := hq
  exact g_icmp_eq (tgt := 1231) dL_law_546 (by decide) (fun _ => kk _ hw) (fun q => absurd rfl q)
set_option maxHeartbeats 1000000 in
theorem lc_without (hE : g_E E adK adV ta) (hsb : sb < E.2.2.2.1) (hI : IB L x3) (h : LW E a b ws) (kk : ∀ ws', LW E a b ws' → G (lwE E sb L xs) mL_law 1750 600000 7302250 A lwQ 113 5607 1231 [some (.ref sb), some (.ref (a 0)), some (.ref (b 0)), some (.int x3)] [] ws') : G (lwE E sb L xs) mL_law 1750 600000 7302250 A lwQ 113 5607 551 [some (.ref sb), some (.ref (a 0)), some (.ref (b 0)), some (.int x3)] [] ws := by
  obtain ⟨⟨i1, fs1, he1⟩, hc1⟩ := PRi.to (sb := sb) (L := L) (xs := xs) (p_without hE h (xs (x3 + 1).toInt.toNat))
  refine g_aload1 dL_law_551 (g_aload0 dL_law_552 (g_iload3 dL_law_553 (g_iconst ki_1 dL_law_554 (g_iadd dL_law_555 (g_sld hsb dL_law_556 hI.1 (?_))))))
  refine g_V1i dL_law_557 mv_L_69 i1 he1 rfl rfl (Nat.le_of_ble_eq_true rfl) (Nat.le_of_ble_eq_true rfl) hc1 (fun r1 w1 hq => ?_)
  obtain ⟨⟨i2, fs2, he2⟩, hc2⟩ := hq
  refine g_aload2 dL_law_560 (g_aload0 dL_law_561 (g_iload3 dL_law_562 (g_iconst ki_1 dL_law_563 (g_iadd dL_law_564 (g_sld hsb dL_law_565 hI.1 (?_))))))
  refine g_V1i dL_law_566 mv_L_72 i2 he2 rfl rfl (Nat.le_of_ble_eq_true rfl) (Nat.le_of_ble_eq_true rfl) hc2 (fun r2 w2 hq => ?_)
  obtain ⟨rfl, hw⟩ := hq
  exact g_icmp_eq (tgt := 1231) dL_law_569 (by decide) (fun _ => kk _ hw) (fun q => absurd rfl q)
set_option maxHeartbeats 1000000 in
theorem lc_unclip (hE : g_E E adK adV ta) (hsb : sb < E.2.2.2.1) (hI : IB L x3) (h : LW E a b ws) (kk : ∀ ws', LW E a b ws' → G (lwE E sb L xs) mL_law 1750 600000 7302250 A lwQ 113 5607 1231 [some (.ref sb), some (.ref (a 0)), some (.ref (b 0)), some (.int x3)] [] ws') : G (lwE E sb L xs) mL_law 1750 600000 7302250 A lwQ 113 5607 574 [some (.ref sb), some (.ref (a 0)), some (.ref (b 0)), some (.int x3)] [] ws := by
  obtain ⟨⟨i1, fs1, he1⟩, hc1⟩ := PRi.to (sb := sb) (L := L) (xs := xs) (p_unclip hE h (xs (x3 + 1).toInt.toNat))
  refine g_aload1 dL_law_574 (g_aload0 dL_law_575 (g_iload3 dL_law_576 (g_iconst ki_1 dL_law_577 (g_iadd dL_law_578 (g_sld hsb dL_law_579 hI.1 (?_))))))
  refine g_V1i dL_law_580 mv_L_73 i1 he1 rfl rfl (Nat.le_of_ble_eq_true rfl) (Nat.le_of_ble_eq_true rfl) hc1 (fun r1 w1 hq => ?_)
  obtain ⟨⟨i2, fs2, he2⟩, hc2⟩ := hq
  refine g_aload2 dL_law_583 (g_aload0 dL_law_584 (g_iload3 dL_law_585 (g_iconst ki_1 dL_law_586 (g_iadd dL_law_587 (g_sld hsb dL_law_588 hI.1 (?_))))))
  refine g_V1i dL_law_589 mv_L_76 i2 he2 rfl rfl (Nat.le_of_ble_eq_true rfl) (Nat.le_of_ble_eq_true rfl) hc2 (fun r2 w2 hq => ?_)
  obtain ⟨rfl, hw⟩ := hq
  exact g_icmp_eq (tgt := 1231) dL_law_592 (by decide) (fun _ => kk _ hw) (fun q => absurd rfl q)
set_option maxHeartbeats 1000000 in
theorem lc_cost (hE : g_E E adK adV ta) (hsb : sb < E.2.2.2.1) (hI : IB L x3) (h : LW E a b ws) (kk : ∀ ws', LW E a b ws' → G (lwE E sb L xs) mL_law 1750 600000 7302250 A lwQ 113 5607 1231 [some (.ref sb), some (.ref (a 0)), some (.ref (b 0)), some (.int x3)] [] ws') : G (lwE E sb L xs) mL_law 1750 600000 7302250 A lwQ 113 5607 597 [some (.ref sb), some (.ref (a 0)), some (.ref (b 0)), some (.int x3)] [] ws := by
  obtain ⟨⟨i1, fs1, he1⟩, hc1⟩ := PRi.to (sb := sb) (L := L) (xs := xs) (p_cost hE h)
  refine g_aload1 dL_law_597 (?_)
  refine g_V0i dL_law_598 mv_L_77 i1 he1 rfl rfl (Nat.le_of_ble_eq_true rfl) (Nat.le_of_ble_eq_true rfl) hc1 (fun r1 w1 hq => ?_)
  obtain ⟨⟨i2, fs2, he2⟩, hc2⟩ := hq
  refine g_aload2 dL_law_601 (?_)
  refine g_V0i dL_law_602 mv_L_80 i2 he2 rfl rfl (Nat.le_of_ble_eq_true rfl) (Nat.le_of_ble_eq_true rfl) hc2 (fun r2 w2 hq => ?_)
  obtain ⟨rfl, hw⟩ := hq
  exact g_icmp_eq (tgt := 1231) dL_law_605 (by decide) (fun _ => kk _ hw) (fun q => absurd rfl q)
set_option maxHeartbeats 1000000 in
theorem lc_atOdds (hE : g_E E adK adV ta) (hsb : sb < E.2.2.2.1) (hI : IB L x3) (h : LW E a b ws) (kk : ∀ ws', LW E a b ws' → G (lwE E sb L xs) mL_law 1750 600000 7302250 A lwQ 113 5607 1231 [some (.ref sb), some (.ref (a 0)), some (.ref (b 0)), some (.int x3)] [] ws') : G (lwE E sb L xs) mL_law 1750 600000 7302250 A lwQ 113 5607 610 [some (.ref sb), some (.ref (a 0)), some (.ref (b 0)), some (.int x3)] [] ws := by
  obtain ⟨⟨i1, fs1, he1⟩, hc1⟩ := PRi.to (sb := sb) (L := L) (xs := xs) (p_atOdds hE h (xs (x3 + 1).toInt.toNat))
  refine g_aload1 dL_law_610 (g_aload0 dL_law_611 (g_iload3 dL_law_612 (g_iconst ki_1 dL_law_613 (g_iadd dL_law_614 (g_sld hsb dL_law_615 hI.1 (?_))))))
  refine g_V1i dL_law_616 mv_L_81 i1 he1 rfl rfl (Nat.le_of_ble_eq_true rfl) (Nat.le_of_ble_eq_true rfl) hc1 (fun r1 w1 hq => ?_)
  obtain ⟨⟨i2, fs2, he2⟩, hc2⟩ := hq
  refine g_aload2 dL_law_619 (g_aload0 dL_law_620 (g_iload3 dL_law_621 (g_iconst ki_1 dL_law_622 (g_iadd dL_law_623 (g_sld hsb dL_law_624 hI.1 (?_))))))
  refine g_V1i dL_law_625 mv_L_84 i2 he2 rfl rfl (Nat.le_of_ble_eq_true rfl) (Nat.le_of_ble_eq_true rfl) hc2 (fun r2 w2 hq => ?_)
  obtain ⟨rfl, hw⟩ := hq
  exact g_icmp_eq (tgt := 1231) dL_law_628 (by decide) (fun _ => kk _ hw) (fun q => absurd rfl q)
set_option maxHeartbeats 1000000 in
theorem lc_best (hE : g_E E adK adV ta) (hsb : sb < E.2.2.2.1) (hI : IB L x3) (h : LW E a b ws) (kk : ∀ ws', LW E a b ws' → G (lwE E sb L xs) mL_law 1750 600000 7302250 A lwQ 113 5607 1231 [some (.ref sb), some (.ref (a 0)), some (.ref (b 0)), some (.int x3)] [] ws') : G (lwE E sb L xs) mL_law 1750 600000 7302250 A lwQ 113 5607 633 [some (.ref sb), some (.ref (a 0)), some (.ref (b 0)), some (.int x3)] [] ws := by
  obtain ⟨⟨i1, fs1, he1⟩, hc1⟩ := PRi.to (sb := sb) (L := L) (xs := xs) (p_best hE h (xs (x3 + 1).toInt.toNat))
  refine g_aload1 dL_law_633 (g_aload0 dL_law_634 (g_iload3 dL_law_635 (g_iconst ki_1 dL_law_636 (g_iadd dL_law_637 (g_sld hsb dL_law_638 hI.1 (?_))))))
  refine g_V1i dL_law_639 mv_L_85 i1 he1 rfl rfl (Nat.le_of_ble_eq_true rfl) (Nat.le_of_ble_eq_true rfl) hc1 (fun r1 w1 hq => ?_)
  obtain ⟨⟨i2, fs2, he2⟩, hc2⟩ := hq
  refine g_aload2 dL_law_642 (g_aload0 dL_law_643 (g_iload3 dL_law_644 (g_iconst ki_1 dL_law_645 (g_iadd dL_law_646 (g_sld hsb dL_law_647 hI.1 (?_))))))
  refine g_V1i dL_law_648 mv_L_88 i2 he2 rfl rfl (Nat.le_of_ble_eq_true rfl) (Nat.le_of_ble_eq_true rfl) hc2 (fun r2 w2 hq => ?_)
  obtain ⟨rfl, hw⟩ := hq
  exact g_icmp_eq (tgt := 1231) dL_law_651 (by decide) (fun _ => kk _ hw) (fun q => absurd rfl q)
set_option maxHeartbeats 1000000 in
theorem lc_swaps (hE : g_E E adK adV ta) (hsb : sb < E.2.2.2.1) (hI : IB L x3) (h : LW E a b ws) (kk : ∀ ws', LW E a b ws' → G (lwE E sb L xs) mL_law 1750 600000 7302250 A lwQ 113 5607 1231 [some (.ref sb), some (.ref (a 0)), some (.ref (b 0)), some (.int x3)] [] ws') : G (lwE E sb L xs) mL_law 1750 600000 7302250 A lwQ 113 5607 656 [some (.ref sb), some (.ref (a 0)), some (.ref (b 0)), some (.int x3)] [] ws := by
  obtain ⟨⟨i1, fs1, he1⟩, hc1⟩ := PRi.to (sb := sb) (L := L) (xs := xs) (p_swaps hE h (xs (x3 + 1).toInt.toNat))
  refine g_aload1 dL_law_656 (g_aload0 dL_law_657 (g_iload3 dL_law_658 (g_iconst ki_1 dL_law_659 (g_iadd dL_law_660 (g_sld hsb dL_law_661 hI.1 (?_))))))
  refine g_V1i dL_law_662 mv_L_89 i1 he1 rfl rfl (Nat.le_of_ble_eq_true rfl) (Nat.le_of_ble_eq_true rfl) hc1 (fun r1 w1 hq => ?_)
  obtain ⟨⟨i2, fs2, he2⟩, hc2⟩ := hq
  refine g_aload2 dL_law_665 (g_aload0 dL_law_666 (g_iload3 dL_law_667 (g_iconst ki_1 dL_law_668 (g_iadd dL_law_669 (g_sld hsb dL_law_670 hI.1 (?_))))))
  refine g_V1i dL_law_671 mv_L_92 i2 he2 rfl rfl (Nat.le_of_ble_eq_true rfl) (Nat.le_of_ble_eq_true rfl) hc2 (fun r2 w2 hq => ?_)
  obtain ⟨rfl, hw⟩ := hq
  exact g_icmp_eq (tgt := 1231) dL_law_674 (by decide) (fun _ => kk _ hw) (fun q => absurd rfl q)
set_option maxHeartbeats 1000000 in
theorem lc_post (hE : g_E E adK adV ta) (hsb : sb < E.2.2.2.1) (hI : IB L x3) (h : LW E a b ws) (kk : ∀ ws', LW E a b ws' → G (lwE E sb L xs) mL_law 1750 600000 7302250 A lwQ 113 5607 1231 [some (.ref sb), some (.ref (a 0)), some (.ref (b 0)), some (.int x3)] [] ws') : G (lwE E sb L xs) mL_law 1750 600000 7302250 A lwQ 113 5607 679 [some (.ref sb), some (.ref (a 0)), some (.ref (b 0)), some (.int x3)] [] ws := by
  obtain ⟨⟨i1, fs1, he1⟩, hc1⟩ := PRi.to (sb := sb) (L := L) (xs := xs) (p_post hE h (xs (x3 + 1).toInt.toNat) (xs (x3 + 2).toInt.toNat))
  refine g_aload1 dL_law_679 (g_aload0 dL_law_680 (g_iload3 dL_law_681 (g_iconst ki_1 dL_law_682 (g_iadd dL_law_683 (g_sld hsb dL_law_684 hI.1 (g_aload0 dL_law_685 (g_iload3 dL_law_686 (g_iconst ki_2 dL_law_687 (g_iadd dL_law_688 (g_sld hsb dL_law_689 hI.2.1 (?_)))))))))))
  refine g_V2i dL_law_690 mv_L_93 i1 he1 rfl rfl (Nat.le_of_ble_eq_true rfl) (Nat.le_of_ble_eq_true rfl) hc1 (fun r1 w1 hq => ?_)
  obtain ⟨⟨i2, fs2, he2⟩, hc2⟩ := hq
  refine g_aload2 dL_law_693 (g_aload0 dL_law_694 (g_iload3 dL_law_695 (g_iconst ki_1 dL_law_696 (g_iadd dL_law_697 (g_sld hsb dL_law_698 hI.1 (g_aload0 dL_law_699 (g_iload3 dL_law_700 (g_iconst ki_2 dL_law_701 (g_iadd dL_law_702 (g_sld hsb dL_law_703 hI.2.1 (?_)))))))))))
  refine g_V2i dL_law_704 mv_L_96 i2 he2 rfl rfl (Nat.le_of_ble_eq_true rfl) (Nat.le_of_ble_eq_true rfl) hc2 (fun r2 w2 hq => ?_)
  obtain ⟨rfl, hw⟩ := hq
  exact g_icmp_eq (tgt := 1231) dL_law_707 (by decide) (fun _ => kk _ hw) (fun q => absurd rfl q)
set_option maxHeartbeats 1000000 in
theorem lc_bestPost (hE : g_E E adK adV ta) (hsb : sb < E.2.2.2.1) (hI : IB L x3) (h : LW E a b ws) (kk : ∀ ws', LW E a b ws' → G (lwE E sb L xs) mL_law 1750 600000 7302250 A lwQ 113 5607 1231 [some (.ref sb), some (.ref (a 0)), some (.ref (b 0)), some (.int x3)] [] ws') : G (lwE E sb L xs) mL_law 1750 600000 7302250 A lwQ 113 5607 712 [some (.ref sb), some (.ref (a 0)), some (.ref (b 0)), some (.int x3)] [] ws := by
  obtain ⟨⟨i1, fs1, he1⟩, hc1⟩ := PRi.to (sb := sb) (L := L) (xs := xs) (p_bestPost hE h (xs (x3 + 1).toInt.toNat))
  refine g_aload1 dL_law_712 (g_aload0 dL_law_713 (g_iload3 dL_law_714 (g_iconst ki_1 dL_law_715 (g_iadd dL_law_716 (g_sld hsb dL_law_717 hI.1 (?_))))))
  refine g_V1i dL_law_718 mv_L_97 i1 he1 rfl rfl (Nat.le_of_ble_eq_true rfl) (Nat.le_of_ble_eq_true rfl) hc1 (fun r1 w1 hq => ?_)
  obtain ⟨⟨i2, fs2, he2⟩, hc2⟩ := hq
  refine g_aload2 dL_law_721 (g_aload0 dL_law_722 (g_iload3 dL_law_723 (g_iconst ki_1 dL_law_724 (g_iadd dL_law_725 (g_sld hsb dL_law_726 hI.1 (?_))))))
  refine g_V1i dL_law_727 mv_L_100 i2 he2 rfl rfl (Nat.le_of_ble_eq_true rfl) (Nat.le_of_ble_eq_true rfl) hc2 (fun r2 w2 hq => ?_)
  obtain ⟨rfl, hw⟩ := hq
  exact g_icmp_eq (tgt := 1231) dL_law_730 (by decide) (fun _ => kk _ hw) (fun q => absurd rfl q)
set_option maxHeartbeats 1000000 in
theorem lc_seen (hE : g_E E adK adV ta) (hsb : sb < E.2.2.2.1) (hI : IB L x3) (h : LW E a b ws) (kk : ∀ ws', LW E a b ws' → G (lwE E sb L xs) mL_law 1750 600000 7302250 A lwQ 113 5607 1231 [some (.ref sb), some (.ref (a 0)), some (.ref (b 0)), some (.int x3)] [] ws') : G (lwE E sb L xs) mL_law 1750 600000 7302250 A lwQ 113 5607 735 [some (.ref sb), some (.ref (a 0)), some (.ref (b 0)), some (.int x3)] [] ws := by
  obtain ⟨⟨i1, fs1, he1⟩, hc1⟩ := PRi.to (sb := sb) (L := L) (xs := xs) (p_seen hE h (xs (x3 + 1).toInt.toNat) (xs (x3 + 2).toInt.toNat) (xs (x3 + 3).toInt.toNat))
  refine g_aload1 dL_law_735 (g_aload0 dL_law_736 (g_iload3 dL_law_737 (g_iconst ki_1 dL_law_738 (g_iadd dL_law_739 (g_sld hsb dL_law_740 hI.1 (g_aload0 dL_law_741 (g_iload3 dL_law_742 (g_iconst ki_2 dL_law_743 (g_iadd dL_law_744 (g_sld hsb dL_law_745 hI.2.1 (g_aload0 dL_law_746 (g_iload3 dL_law_747 (g_iconst ki_3 dL_law_748 (g_iadd dL_law_749 (g_sld hsb dL_law_750 hI.2.2.1 (?_))))))))))))))))
  refine g_V3i dL_law_751 mv_L_101 i1 he1 rfl rfl (Nat.le_of_ble_eq_true rfl) (Nat.le_of_ble_eq_true rfl) hc1 (fun r1 w1 hq => ?_)
  obtain ⟨⟨i2, fs2, he2⟩, hc2⟩ := hq
  refine g_aload2 dL_law_754 (g_aload0 dL_law_755 (g_iload3 dL_law_756 (g_iconst ki_1 dL_law_757 (g_iadd dL_law_758 (g_sld hsb dL_law_759 hI.1 (g_aload0 dL_law_760 (g_iload3 dL_law_761 (g_iconst ki_2 dL_law_762 (g_iadd dL_law_763 (g_sld hsb dL_law_764 hI.2.1 (g_aload0 dL_law_765 (g_iload3 dL_law_766 (g_iconst ki_3 dL_law_767 (g_iadd dL_law_768 (g_sld hsb dL_law_769 hI.2.2.1 (?_))))))))))))))))
  refine g_V3i dL_law_770 mv_L_104 i2 he2 rfl rfl (Nat.le_of_ble_eq_true rfl) (Nat.le_of_ble_eq_true rfl) hc2 (fun r2 w2 hq => ?_)
  obtain ⟨rfl, hw⟩ := hq
  exact g_icmp_eq (tgt := 1231) dL_law_773 (by decide) (fun _ => kk _ hw) (fun q => absurd rfl q)
set_option maxHeartbeats 1000000 in
theorem lc_fetch (hE : g_E E adK adV ta) (hsb : sb < E.2.2.2.1) (hI : IB L x3) (h : LW E a b ws) (kk : ∀ ws', LW E a b ws' → G (lwE E sb L xs) mL_law 1750 600000 7302250 A lwQ 113 5607 1231 [some (.ref sb), some (.ref (a 0)), some (.ref (b 0)), some (.int x3)] [] ws') : G (lwE E sb L xs) mL_law 1750 600000 7302250 A lwQ 113 5607 778 [some (.ref sb), some (.ref (a 0)), some (.ref (b 0)), some (.int x3)] [] ws := by
  obtain ⟨⟨i1, fs1, he1⟩, hc1⟩ := PRi.to (sb := sb) (L := L) (xs := xs) (p_fetch hE h)
  refine g_aload1 dL_law_778 (?_)
  refine g_V0i dL_law_779 mv_L_105 i1 he1 rfl rfl (Nat.le_of_ble_eq_true rfl) (Nat.le_of_ble_eq_true rfl) hc1 (fun r1 w1 hq => ?_)
  obtain ⟨⟨i2, fs2, he2⟩, hc2⟩ := hq
  refine g_aload2 dL_law_782 (?_)
  refine g_V0i dL_law_783 mv_L_108 i2 he2 rfl rfl (Nat.le_of_ble_eq_true rfl) (Nat.le_of_ble_eq_true rfl) hc2 (fun r2 w2 hq => ?_)
  obtain ⟨rfl, hw⟩ := hq
  exact g_icmp_eq (tgt := 1231) dL_law_786 (by decide) (fun _ => kk _ hw) (fun q => absurd rfl q)
set_option maxHeartbeats 1000000 in
theorem lc_fetched (hE : g_E E adK adV ta) (hsb : sb < E.2.2.2.1) (hI : IB L x3) (h : LW E a b ws) (kk : ∀ ws', LW E a b ws' → G (lwE E sb L xs) mL_law 1750 600000 7302250 A lwQ 113 5607 1231 [some (.ref sb), some (.ref (a 0)), some (.ref (b 0)), some (.int x3)] [] ws') : G (lwE E sb L xs) mL_law 1750 600000 7302250 A lwQ 113 5607 791 [some (.ref sb), some (.ref (a 0)), some (.ref (b 0)), some (.int x3)] [] ws := by
  obtain ⟨⟨i1, fs1, he1⟩, hc1⟩ := PRi.to (sb := sb) (L := L) (xs := xs) (p_fetched hE h (xs (x3 + 1).toInt.toNat))
  refine g_aload1 dL_law_791 (g_aload0 dL_law_792 (g_iload3 dL_law_793 (g_iconst ki_1 dL_law_794 (g_iadd dL_law_795 (g_sld hsb dL_law_796 hI.1 (?_))))))
  refine g_V1i dL_law_797 mv_L_109 i1 he1 rfl rfl (Nat.le_of_ble_eq_true rfl) (Nat.le_of_ble_eq_true rfl) hc1 (fun r1 w1 hq => ?_)
  obtain ⟨⟨i2, fs2, he2⟩, hc2⟩ := hq
  refine g_aload2 dL_law_800 (g_aload0 dL_law_801 (g_iload3 dL_law_802 (g_iconst ki_1 dL_law_803 (g_iadd dL_law_804 (g_sld hsb dL_law_805 hI.1 (?_))))))
  refine g_V1i dL_law_806 mv_L_112 i2 he2 rfl rfl (Nat.le_of_ble_eq_true rfl) (Nat.le_of_ble_eq_true rfl) hc2 (fun r2 w2 hq => ?_)
  obtain ⟨rfl, hw⟩ := hq
  exact g_icmp_eq (tgt := 1231) dL_law_809 (by decide) (fun _ => kk _ hw) (fun q => absurd rfl q)
set_option maxHeartbeats 1000000 in
theorem lc_walk (hE : g_E E adK adV ta) (hsb : sb < E.2.2.2.1) (hI : IB L x3) (h : LW E a b ws) (kk : ∀ ws', LW E a b ws' → G (lwE E sb L xs) mL_law 1750 600000 7302250 A lwQ 113 5607 1231 [some (.ref sb), some (.ref (a 0)), some (.ref (b 0)), some (.int x3)] [] ws') : G (lwE E sb L xs) mL_law 1750 600000 7302250 A lwQ 113 5607 814 [some (.ref sb), some (.ref (a 0)), some (.ref (b 0)), some (.int x3)] [] ws := by
  obtain ⟨⟨i1, fs1, he1⟩, hc1⟩ := PRi.to (sb := sb) (L := L) (xs := xs) (p_walk hE h)
  refine g_aload1 dL_law_814 (?_)
  refine g_V0i dL_law_815 mv_L_113 i1 he1 rfl rfl (Nat.le_of_ble_eq_true rfl) (Nat.le_of_ble_eq_true rfl) hc1 (fun r1 w1 hq => ?_)
  obtain ⟨⟨i2, fs2, he2⟩, hc2⟩ := hq
  refine g_aload2 dL_law_818 (?_)
  refine g_V0i dL_law_819 mv_L_116 i2 he2 rfl rfl (Nat.le_of_ble_eq_true rfl) (Nat.le_of_ble_eq_true rfl) hc2 (fun r2 w2 hq => ?_)
  obtain ⟨rfl, hw⟩ := hq
  exact g_icmp_eq (tgt := 1231) dL_law_822 (by decide) (fun _ => kk _ hw) (fun q => absurd rfl q)
set_option maxHeartbeats 1000000 in
theorem lc_take (hE : g_E E adK adV ta) (hsb : sb < E.2.2.2.1) (hI : IB L x3) (h : LW E a b ws) (kk : ∀ ws', LW E a b ws' → G (lwE E sb L xs) mL_law 1750 600000 7302250 A lwQ 113 5607 1231 [some (.ref sb), some (.ref (a 0)), some (.ref (b 0)), some (.int x3)] [] ws') : G (lwE E sb L xs) mL_law 1750 600000 7302250 A lwQ 113 5607 827 [some (.ref sb), some (.ref (a 0)), some (.ref (b 0)), some (.int x3)] [] ws := by
  obtain ⟨⟨i1, fs1, he1⟩, hc1⟩ := PRi.to (sb := sb) (L := L) (xs := xs) (p_take hE h (xs (x3 + 1).toInt.toNat))
  refine g_aload1 dL_law_827 (g_aload0 dL_law_828 (g_iload3 dL_law_829 (g_iconst ki_1 dL_law_830 (g_iadd dL_law_831 (g_sld hsb dL_law_832 hI.1 (?_))))))
  refine g_V1i dL_law_833 mv_L_117 i1 he1 rfl rfl (Nat.le_of_ble_eq_true rfl) (Nat.le_of_ble_eq_true rfl) hc1 (fun r1 w1 hq => ?_)
  obtain ⟨⟨i2, fs2, he2⟩, hc2⟩ := hq
  refine g_aload2 dL_law_836 (g_aload0 dL_law_837 (g_iload3 dL_law_838 (g_iconst ki_1 dL_law_839 (g_iadd dL_law_840 (g_sld hsb dL_law_841 hI.1 (?_))))))
  refine g_V1i dL_law_842 mv_L_120 i2 he2 rfl rfl (Nat.le_of_ble_eq_true rfl) (Nat.le_of_ble_eq_true rfl) hc2 (fun r2 w2 hq => ?_)
  obtain ⟨rfl, hw⟩ := hq
  exact g_icmp_eq (tgt := 1231) dL_law_845 (by decide) (fun _ => kk _ hw) (fun q => absurd rfl q)
set_option maxHeartbeats 1000000 in
theorem lc_drawn (hE : g_E E adK adV ta) (hsb : sb < E.2.2.2.1) (hI : IB L x3) (h : LW E a b ws) (kk : ∀ ws', LW E a b ws' → G (lwE E sb L xs) mL_law 1750 600000 7302250 A lwQ 113 5607 1231 [some (.ref sb), some (.ref (a 0)), some (.ref (b 0)), some (.int x3)] [] ws') : G (lwE E sb L xs) mL_law 1750 600000 7302250 A lwQ 113 5607 850 [some (.ref sb), some (.ref (a 0)), some (.ref (b 0)), some (.int x3)] [] ws := by
  obtain ⟨⟨i1, fs1, he1⟩, hc1⟩ := PRi.to (sb := sb) (L := L) (xs := xs) (p_drawn hE h (xs (x3 + 1).toInt.toNat) (xs (x3 + 2).toInt.toNat))
  refine g_aload1 dL_law_850 (g_aload0 dL_law_851 (g_iload3 dL_law_852 (g_iconst ki_1 dL_law_853 (g_iadd dL_law_854 (g_sld hsb dL_law_855 hI.1 (g_aload0 dL_law_856 (g_iload3 dL_law_857 (g_iconst ki_2 dL_law_858 (g_iadd dL_law_859 (g_sld hsb dL_law_860 hI.2.1 (?_)))))))))))
  refine g_V2i dL_law_861 mv_L_121 i1 he1 rfl rfl (Nat.le_of_ble_eq_true rfl) (Nat.le_of_ble_eq_true rfl) hc1 (fun r1 w1 hq => ?_)
  obtain ⟨⟨i2, fs2, he2⟩, hc2⟩ := hq
  refine g_aload2 dL_law_864 (g_aload0 dL_law_865 (g_iload3 dL_law_866 (g_iconst ki_1 dL_law_867 (g_iadd dL_law_868 (g_sld hsb dL_law_869 hI.1 (g_aload0 dL_law_870 (g_iload3 dL_law_871 (g_iconst ki_2 dL_law_872 (g_iadd dL_law_873 (g_sld hsb dL_law_874 hI.2.1 (?_)))))))))))
  refine g_V2i dL_law_875 mv_L_124 i2 he2 rfl rfl (Nat.le_of_ble_eq_true rfl) (Nat.le_of_ble_eq_true rfl) hc2 (fun r2 w2 hq => ?_)
  obtain ⟨rfl, hw⟩ := hq
  exact g_icmp_eq (tgt := 1231) dL_law_878 (by decide) (fun _ => kk _ hw) (fun q => absurd rfl q)
set_option maxHeartbeats 1000000 in
theorem lc_chance (hE : g_E E adK adV ta) (hsb : sb < E.2.2.2.1) (hI : IB L x3) (h : LW E a b ws) (kk : ∀ ws', LW E a b ws' → G (lwE E sb L xs) mL_law 1750 600000 7302250 A lwQ 113 5607 1231 [some (.ref sb), some (.ref (a 0)), some (.ref (b 0)), some (.int x3)] [] ws') : G (lwE E sb L xs) mL_law 1750 600000 7302250 A lwQ 113 5607 883 [some (.ref sb), some (.ref (a 0)), some (.ref (b 0)), some (.int x3)] [] ws := by
  obtain ⟨⟨i1, fs1, he1⟩, hc1⟩ := PRl.to (sb := sb) (L := L) (xs := xs) (p_chance hE h (xs (x3 + 1).toInt.toNat) (xs (x3 + 2).toInt.toNat) (xs (x3 + 3).toInt.toNat) (xs (x3 + 4).toInt.toNat) (xs (x3 + 5).toInt.toNat))
  refine g_aload1 dL_law_883 (g_aload0 dL_law_884 (g_iload3 dL_law_885 (g_iconst ki_1 dL_law_886 (g_iadd dL_law_887 (g_sld hsb dL_law_888 hI.1 (g_aload0 dL_law_889 (g_iload3 dL_law_890 (g_iconst ki_2 dL_law_891 (g_iadd dL_law_892 (g_sld hsb dL_law_893 hI.2.1 (g_aload0 dL_law_894 (g_iload3 dL_law_895 (g_iconst ki_3 dL_law_896 (g_iadd dL_law_897 (g_sld hsb dL_law_898 hI.2.2.1 (g_aload0 dL_law_899 (g_iload3 dL_law_900 (g_iconst ki_4 dL_law_901 (g_iadd dL_law_902 (g_sld hsb dL_law_903 hI.2.2.2.1 (g_aload0 dL_law_904 (g_iload3 dL_law_905 (g_iconst ki_5 dL_law_906 (g_iadd dL_law_907 (g_sld hsb dL_law_908 hI.2.2.2.2 (?_))))))))))))))))))))))))))
  refine g_V5l dL_law_909 mv_L_125 i1 he1 rfl rfl (Nat.le_of_ble_eq_true rfl) (Nat.le_of_ble_eq_true rfl) hc1 (fun r1 w1 hq => ?_)
  obtain ⟨⟨i2, fs2, he2⟩, hc2⟩ := hq
  refine g_aload2 dL_law_912 (g_aload0 dL_law_913 (g_iload3 dL_law_914 (g_iconst ki_1 dL_law_915 (g_iadd dL_law_916 (g_sld hsb dL_law_917 hI.1 (g_aload0 dL_law_918 (g_iload3 dL_law_919 (g_iconst ki_2 dL_law_920 (g_iadd dL_law_921 (g_sld hsb dL_law_922 hI.2.1 (g_aload0 dL_law_923 (g_iload3 dL_law_924 (g_iconst ki_3 dL_law_925 (g_iadd dL_law_926 (g_sld hsb dL_law_927 hI.2.2.1 (g_aload0 dL_law_928 (g_iload3 dL_law_929 (g_iconst ki_4 dL_law_930 (g_iadd dL_law_931 (g_sld hsb dL_law_932 hI.2.2.2.1 (g_aload0 dL_law_933 (g_iload3 dL_law_934 (g_iconst ki_5 dL_law_935 (g_iadd dL_law_936 (g_sld hsb dL_law_937 hI.2.2.2.2 (?_))))))))))))))))))))))))))
  refine g_V5l dL_law_938 mv_L_129 i2 he2 rfl rfl (Nat.le_of_ble_eq_true rfl) (Nat.le_of_ble_eq_true rfl) hc2 (fun r2 w2 hq => ?_)
  obtain ⟨rfl, hw⟩ := hq
  exact g_lcmp dL_law_941 (g_if_eq (tgt := 1231) dL_law_942 (by decide) (fun _ => kk _ hw) (fun q => absurd (lg_cmp_0 _) q))
set_option maxHeartbeats 1000000 in
theorem lc_image (hE : g_E E adK adV ta) (hsb : sb < E.2.2.2.1) (hI : IB L x3) (h : LW E a b ws) (kk : ∀ ws', LW E a b ws' → G (lwE E sb L xs) mL_law 1750 600000 7302250 A lwQ 113 5607 1231 [some (.ref sb), some (.ref (a 0)), some (.ref (b 0)), some (.int x3)] [] ws') : G (lwE E sb L xs) mL_law 1750 600000 7302250 A lwQ 113 5607 947 [some (.ref sb), some (.ref (a 0)), some (.ref (b 0)), some (.int x3)] [] ws := by
  obtain ⟨⟨i1, fs1, he1⟩, hc1⟩ := PRi.to (sb := sb) (L := L) (xs := xs) (p_image hE h)
  refine g_aload1 dL_law_947 (?_)
  refine g_V0i dL_law_948 mv_L_130 i1 he1 rfl rfl (Nat.le_of_ble_eq_true rfl) (Nat.le_of_ble_eq_true rfl) hc1 (fun r1 w1 hq => ?_)
  obtain ⟨⟨i2, fs2, he2⟩, hc2⟩ := hq
  refine g_aload2 dL_law_951 (?_)
  refine g_V0i dL_law_952 mv_L_133 i2 he2 rfl rfl (Nat.le_of_ble_eq_true rfl) (Nat.le_of_ble_eq_true rfl) hc2 (fun r2 w2 hq => ?_)
  obtain ⟨rfl, hw⟩ := hq
  exact g_icmp_eq (tgt := 1231) dL_law_955 (by decide) (fun _ => kk _ hw) (fun q => absurd rfl q)
set_option maxHeartbeats 1000000 in
theorem lc_back (hE : g_E E adK adV ta) (hsb : sb < E.2.2.2.1) (hI : IB L x3) (h : LW E a b ws) (kk : ∀ ws', LW E a b ws' → G (lwE E sb L xs) mL_law 1750 600000 7302250 A lwQ 113 5607 1231 [some (.ref sb), some (.ref (a 0)), some (.ref (b 0)), some (.int x3)] [] ws') : G (lwE E sb L xs) mL_law 1750 600000 7302250 A lwQ 113 5607 960 [some (.ref sb), some (.ref (a 0)), some (.ref (b 0)), some (.int x3)] [] ws := by
  obtain ⟨⟨i1, fs1, he1⟩, hc1⟩ := PRi.to (sb := sb) (L := L) (xs := xs) (p_back hE h)
  refine g_aload1 dL_law_960 (?_)
  refine g_V0i dL_law_961 mv_L_134 i1 he1 rfl rfl (Nat.le_of_ble_eq_true rfl) (Nat.le_of_ble_eq_true rfl) hc1 (fun r1 w1 hq => ?_)
  obtain ⟨⟨i2, fs2, he2⟩, hc2⟩ := hq
  refine g_aload2 dL_law_964 (?_)
  refine g_V0i dL_law_965 mv_L_137 i2 he2 rfl rfl (Nat.le_of_ble_eq_true rfl) (Nat.le_of_ble_eq_true rfl) hc2 (fun r2 w2 hq => ?_)
  obtain ⟨rfl, hw⟩ := hq
  exact g_icmp_eq (tgt := 1231) dL_law_968 (by decide) (fun _ => kk _ hw) (fun q => absurd rfl q)
set_option maxHeartbeats 1000000 in
theorem lc_count (hE : g_E E adK adV ta) (hsb : sb < E.2.2.2.1) (hI : IB L x3) (h : LW E a b ws) (kk : ∀ ws', LW E a b ws' → G (lwE E sb L xs) mL_law 1750 600000 7302250 A lwQ 113 5607 1231 [some (.ref sb), some (.ref (a 0)), some (.ref (b 0)), some (.int x3)] [] ws') : G (lwE E sb L xs) mL_law 1750 600000 7302250 A lwQ 113 5607 973 [some (.ref sb), some (.ref (a 0)), some (.ref (b 0)), some (.int x3)] [] ws := by
  obtain ⟨⟨i1, fs1, he1⟩, hc1⟩ := PRi.to (sb := sb) (L := L) (xs := xs) (p_count hE h (xs (x3 + 1).toInt.toNat))
  refine g_aload1 dL_law_973 (g_aload0 dL_law_974 (g_iload3 dL_law_975 (g_iconst ki_1 dL_law_976 (g_iadd dL_law_977 (g_sld hsb dL_law_978 hI.1 (?_))))))
  refine g_V1i dL_law_979 mv_L_138 i1 he1 rfl rfl (Nat.le_of_ble_eq_true rfl) (Nat.le_of_ble_eq_true rfl) hc1 (fun r1 w1 hq => ?_)
  obtain ⟨⟨i2, fs2, he2⟩, hc2⟩ := hq
  refine g_aload2 dL_law_982 (g_aload0 dL_law_983 (g_iload3 dL_law_984 (g_iconst ki_1 dL_law_985 (g_iadd dL_law_986 (g_sld hsb dL_law_987 hI.1 (?_))))))
  refine g_V1i dL_law_988 mv_L_141 i2 he2 rfl rfl (Nat.le_of_ble_eq_true rfl) (Nat.le_of_ble_eq_true rfl) hc2 (fun r2 w2 hq => ?_)
  obtain ⟨rfl, hw⟩ := hq
  exact g_icmp_eq (tgt := 1231) dL_law_991 (by decide) (fun _ => kk _ hw) (fun q => absurd rfl q)
set_option maxHeartbeats 1000000 in
theorem lc_sheet (hE : g_E E adK adV ta) (hsb : sb < E.2.2.2.1) (hI : IB L x3) (h : LW E a b ws) (kk : ∀ ws', LW E a b ws' → G (lwE E sb L xs) mL_law 1750 600000 7302250 A lwQ 113 5607 1231 [some (.ref sb), some (.ref (a 0)), some (.ref (b 0)), some (.int x3)] [] ws') : G (lwE E sb L xs) mL_law 1750 600000 7302250 A lwQ 113 5607 996 [some (.ref sb), some (.ref (a 0)), some (.ref (b 0)), some (.int x3)] [] ws := by
  obtain ⟨⟨i1, fs1, he1⟩, hc1⟩ := PRi.to (sb := sb) (L := L) (xs := xs) (p_sheet hE h (xs (x3 + 1).toInt.toNat) (xs (x3 + 2).toInt.toNat) (xs (x3 + 3).toInt.toNat))
  refine g_aload1 dL_law_996 (g_aload0 dL_law_997 (g_iload3 dL_law_998 (g_iconst ki_1 dL_law_999 (g_iadd dL_law_1000 (g_sld hsb dL_law_1001 hI.1 (g_aload0 dL_law_1002 (g_iload3 dL_law_1003 (g_iconst ki_2 dL_law_1004 (g_iadd dL_law_1005 (g_sld hsb dL_law_1006 hI.2.1 (g_aload0 dL_law_1007 (g_iload3 dL_law_1008 (g_iconst ki_3 dL_law_1009 (g_iadd dL_law_1010 (g_sld hsb dL_law_1011 hI.2.2.1 (?_))))))))))))))))
  refine g_V3i dL_law_1012 mv_L_142 i1 he1 rfl rfl (Nat.le_of_ble_eq_true rfl) (Nat.le_of_ble_eq_true rfl) hc1 (fun r1 w1 hq => ?_)
  obtain ⟨⟨i2, fs2, he2⟩, hc2⟩ := hq
  refine g_aload2 dL_law_1015 (g_aload0 dL_law_1016 (g_iload3 dL_law_1017 (g_iconst ki_1 dL_law_1018 (g_iadd dL_law_1019 (g_sld hsb dL_law_1020 hI.1 (g_aload0 dL_law_1021 (g_iload3 dL_law_1022 (g_iconst ki_2 dL_law_1023 (g_iadd dL_law_1024 (g_sld hsb dL_law_1025 hI.2.1 (g_aload0 dL_law_1026 (g_iload3 dL_law_1027 (g_iconst ki_3 dL_law_1028 (g_iadd dL_law_1029 (g_sld hsb dL_law_1030 hI.2.2.1 (?_))))))))))))))))
  refine g_V3i dL_law_1031 mv_L_145 i2 he2 rfl rfl (Nat.le_of_ble_eq_true rfl) (Nat.le_of_ble_eq_true rfl) hc2 (fun r2 w2 hq => ?_)
  obtain ⟨rfl, hw⟩ := hq
  exact g_icmp_eq (tgt := 1231) dL_law_1034 (by decide) (fun _ => kk _ hw) (fun q => absurd rfl q)
set_option maxHeartbeats 1000000 in
theorem lc_cell (hE : g_E E adK adV ta) (hsb : sb < E.2.2.2.1) (hI : IB L x3) (h : LW E a b ws) (kk : ∀ ws', LW E a b ws' → G (lwE E sb L xs) mL_law 1750 600000 7302250 A lwQ 113 5607 1231 [some (.ref sb), some (.ref (a 0)), some (.ref (b 0)), some (.int x3)] [] ws') : G (lwE E sb L xs) mL_law 1750 600000 7302250 A lwQ 113 5607 1039 [some (.ref sb), some (.ref (a 0)), some (.ref (b 0)), some (.int x3)] [] ws := by
  obtain ⟨⟨i1, fs1, he1⟩, hc1⟩ := PRi.to (sb := sb) (L := L) (xs := xs) (p_cell hE h (xs (x3 + 1).toInt.toNat) (xs (x3 + 2).toInt.toNat) (xs (x3 + 3).toInt.toNat))
  refine g_aload1 dL_law_1039 (g_aload0 dL_law_1040 (g_iload3 dL_law_1041 (g_iconst ki_1 dL_law_1042 (g_iadd dL_law_1043 (g_sld hsb dL_law_1044 hI.1 (g_aload0 dL_law_1045 (g_iload3 dL_law_1046 (g_iconst ki_2 dL_law_1047 (g_iadd dL_law_1048 (g_sld hsb dL_law_1049 hI.2.1 (g_aload0 dL_law_1050 (g_iload3 dL_law_1051 (g_iconst ki_3 dL_law_1052 (g_iadd dL_law_1053 (g_sld hsb dL_law_1054 hI.2.2.1 (?_))))))))))))))))
  refine g_V3i dL_law_1055 mv_L_146 i1 he1 rfl rfl (Nat.le_of_ble_eq_true rfl) (Nat.le_of_ble_eq_true rfl) hc1 (fun r1 w1 hq => ?_)
  obtain ⟨⟨i2, fs2, he2⟩, hc2⟩ := hq
  refine g_aload2 dL_law_1058 (g_aload0 dL_law_1059 (g_iload3 dL_law_1060 (g_iconst ki_1 dL_law_1061 (g_iadd dL_law_1062 (g_sld hsb dL_law_1063 hI.1 (g_aload0 dL_law_1064 (g_iload3 dL_law_1065 (g_iconst ki_2 dL_law_1066 (g_iadd dL_law_1067 (g_sld hsb dL_law_1068 hI.2.1 (g_aload0 dL_law_1069 (g_iload3 dL_law_1070 (g_iconst ki_3 dL_law_1071 (g_iadd dL_law_1072 (g_sld hsb dL_law_1073 hI.2.2.1 (?_))))))))))))))))
  refine g_V3i dL_law_1074 mv_L_149 i2 he2 rfl rfl (Nat.le_of_ble_eq_true rfl) (Nat.le_of_ble_eq_true rfl) hc2 (fun r2 w2 hq => ?_)
  obtain ⟨rfl, hw⟩ := hq
  exact g_icmp_eq (tgt := 1231) dL_law_1077 (by decide) (fun _ => kk _ hw) (fun q => absurd rfl q)
set_option maxHeartbeats 1000000 in
theorem lc_copy (hE : g_E E adK adV ta) (hsb : sb < E.2.2.2.1) (hI : IB L x3) (h : LW E a b ws) (kk : ∀ ws', LW E a b ws' → G (lwE E sb L xs) mL_law 1750 600000 7302250 A lwQ 113 5607 1231 [some (.ref sb), some (.ref (a 0)), some (.ref (b 0)), some (.int x3)] [] ws') : G (lwE E sb L xs) mL_law 1750 600000 7302250 A lwQ 113 5607 1082 [some (.ref sb), some (.ref (a 0)), some (.ref (b 0)), some (.int x3)] [] ws := by
  obtain ⟨⟨i1, fs1, he1⟩, hc1⟩ := PRi.to (sb := sb) (L := L) (xs := xs) (p_copy hE h (xs (x3 + 1).toInt.toNat) (xs (x3 + 2).toInt.toNat) (xs (x3 + 3).toInt.toNat) (xs (x3 + 4).toInt.toNat) (xs (x3 + 5).toInt.toNat))
  refine g_aload1 dL_law_1082 (g_aload0 dL_law_1083 (g_iload3 dL_law_1084 (g_iconst ki_1 dL_law_1085 (g_iadd dL_law_1086 (g_sld hsb dL_law_1087 hI.1 (g_aload0 dL_law_1088 (g_iload3 dL_law_1089 (g_iconst ki_2 dL_law_1090 (g_iadd dL_law_1091 (g_sld hsb dL_law_1092 hI.2.1 (g_aload0 dL_law_1093 (g_iload3 dL_law_1094 (g_iconst ki_3 dL_law_1095 (g_iadd dL_law_1096 (g_sld hsb dL_law_1097 hI.2.2.1 (g_aload0 dL_law_1098 (g_iload3 dL_law_1099 (g_iconst ki_4 dL_law_1100 (g_iadd dL_law_1101 (g_sld hsb dL_law_1102 hI.2.2.2.1 (g_aload0 dL_law_1103 (g_iload3 dL_law_1104 (g_iconst ki_5 dL_law_1105 (g_iadd dL_law_1106 (g_sld hsb dL_law_1107 hI.2.2.2.2 (?_))))))))))))))))))))))))))
  refine g_V5i dL_law_1108 mv_L_150 i1 he1 rfl rfl (Nat.le_of_ble_eq_true rfl) (Nat.le_of_ble_eq_true rfl) hc1 (fun r1 w1 hq => ?_)
  obtain ⟨⟨i2, fs2, he2⟩, hc2⟩ := hq
  refine g_aload2 dL_law_1111 (g_aload0 dL_law_1112 (g_iload3 dL_law_1113 (g_iconst ki_1 dL_law_1114 (g_iadd dL_law_1115 (g_sld hsb dL_law_1116 hI.1 (g_aload0 dL_law_1117 (g_iload3 dL_law_1118 (g_iconst ki_2 dL_law_1119 (g_iadd dL_law_1120 (g_sld hsb dL_law_1121 hI.2.1 (g_aload0 dL_law_1122 (g_iload3 dL_law_1123 (g_iconst ki_3 dL_law_1124 (g_iadd dL_law_1125 (g_sld hsb dL_law_1126 hI.2.2.1 (g_aload0 dL_law_1127 (g_iload3 dL_law_1128 (g_iconst ki_4 dL_law_1129 (g_iadd dL_law_1130 (g_sld hsb dL_law_1131 hI.2.2.2.1 (g_aload0 dL_law_1132 (g_iload3 dL_law_1133 (g_iconst ki_5 dL_law_1134 (g_iadd dL_law_1135 (g_sld hsb dL_law_1136 hI.2.2.2.2 (?_))))))))))))))))))))))))))
  refine g_V5i dL_law_1137 mv_L_154 i2 he2 rfl rfl (Nat.le_of_ble_eq_true rfl) (Nat.le_of_ble_eq_true rfl) hc2 (fun r2 w2 hq => ?_)
  obtain ⟨rfl, hw⟩ := hq
  exact g_icmp_eq (tgt := 1231) dL_law_1140 (by decide) (fun _ => kk _ hw) (fun q => absurd rfl q)
set_option maxHeartbeats 1000000 in
theorem lc_crossings (hE : g_E E adK adV ta) (hsb : sb < E.2.2.2.1) (hI : IB L x3) (h : LW E a b ws) (kk : ∀ ws', LW E a b ws' → G (lwE E sb L xs) mL_law 1750 600000 7302250 A lwQ 113 5607 1231 [some (.ref sb), some (.ref (a 0)), some (.ref (b 0)), some (.int x3)] [] ws') : G (lwE E sb L xs) mL_law 1750 600000 7302250 A lwQ 113 5607 1145 [some (.ref sb), some (.ref (a 0)), some (.ref (b 0)), some (.int x3)] [] ws := by
  obtain ⟨⟨i1, fs1, he1⟩, hc1⟩ := PRi.to (sb := sb) (L := L) (xs := xs) (p_crossings hE h (xs (x3 + 1).toInt.toNat) (xs (x3 + 2).toInt.toNat) (xs (x3 + 3).toInt.toNat) (xs (x3 + 4).toInt.toNat))
  refine g_aload1 dL_law_1145 (g_aload0 dL_law_1146 (g_iload3 dL_law_1147 (g_iconst ki_1 dL_law_1148 (g_iadd dL_law_1149 (g_sld hsb dL_law_1150 hI.1 (g_aload0 dL_law_1151 (g_iload3 dL_law_1152 (g_iconst ki_2 dL_law_1153 (g_iadd dL_law_1154 (g_sld hsb dL_law_1155 hI.2.1 (g_aload0 dL_law_1156 (g_iload3 dL_law_1157 (g_iconst ki_3 dL_law_1158 (g_iadd dL_law_1159 (g_sld hsb dL_law_1160 hI.2.2.1 (g_aload0 dL_law_1161 (g_iload3 dL_law_1162 (g_iconst ki_4 dL_law_1163 (g_iadd dL_law_1164 (g_sld hsb dL_law_1165 hI.2.2.2.1 (?_)))))))))))))))))))))
  refine g_V4i dL_law_1166 mv_L_155 i1 he1 rfl rfl (Nat.le_of_ble_eq_true rfl) (Nat.le_of_ble_eq_true rfl) hc1 (fun r1 w1 hq => ?_)
  obtain ⟨⟨i2, fs2, he2⟩, hc2⟩ := hq
  refine g_aload2 dL_law_1169 (g_aload0 dL_law_1170 (g_iload3 dL_law_1171 (g_iconst ki_1 dL_law_1172 (g_iadd dL_law_1173 (g_sld hsb dL_law_1174 hI.1 (g_aload0 dL_law_1175 (g_iload3 dL_law_1176 (g_iconst ki_2 dL_law_1177 (g_iadd dL_law_1178 (g_sld hsb dL_law_1179 hI.2.1 (g_aload0 dL_law_1180 (g_iload3 dL_law_1181 (g_iconst ki_3 dL_law_1182 (g_iadd dL_law_1183 (g_sld hsb dL_law_1184 hI.2.2.1 (g_aload0 dL_law_1185 (g_iload3 dL_law_1186 (g_iconst ki_4 dL_law_1187 (g_iadd dL_law_1188 (g_sld hsb dL_law_1189 hI.2.2.2.1 (?_)))))))))))))))))))))
  refine g_V4i dL_law_1190 mv_L_159 i2 he2 rfl rfl (Nat.le_of_ble_eq_true rfl) (Nat.le_of_ble_eq_true rfl) hc2 (fun r2 w2 hq => ?_)
  obtain ⟨rfl, hw⟩ := hq
  exact g_icmp_eq (tgt := 1231) dL_law_1193 (by decide) (fun _ => kk _ hw) (fun q => absurd rfl q)
set_option maxHeartbeats 1000000 in
theorem lc_taken (hE : g_E E adK adV ta) (hsb : sb < E.2.2.2.1) (hI : IB L x3) (h : LW E a b ws) (kk : ∀ ws', LW E a b ws' → G (lwE E sb L xs) mL_law 1750 600000 7302250 A lwQ 113 5607 1231 [some (.ref sb), some (.ref (a 0)), some (.ref (b 0)), some (.int x3)] [] ws') : G (lwE E sb L xs) mL_law 1750 600000 7302250 A lwQ 113 5607 1198 [some (.ref sb), some (.ref (a 0)), some (.ref (b 0)), some (.int x3)] [] ws := by
  obtain ⟨⟨i1, fs1, he1⟩, hc1⟩ := PRi.to (sb := sb) (L := L) (xs := xs) (p_taken hE h (xs (x3 + 1).toInt.toNat) (xs (x3 + 2).toInt.toNat))
  refine g_aload1 dL_law_1198 (g_aload0 dL_law_1199 (g_iload3 dL_law_1200 (g_iconst ki_1 dL_law_1201 (g_iadd dL_law_1202 (g_sld hsb dL_law_1203 hI.1 (g_aload0 dL_law_1204 (g_iload3 dL_law_1205 (g_iconst ki_2 dL_law_1206 (g_iadd dL_law_1207 (g_sld hsb dL_law_1208 hI.2.1 (?_)))))))))))
  refine g_V2i dL_law_1209 mv_L_160 i1 he1 rfl rfl (Nat.le_of_ble_eq_true rfl) (Nat.le_of_ble_eq_true rfl) hc1 (fun r1 w1 hq => ?_)
  obtain ⟨⟨i2, fs2, he2⟩, hc2⟩ := hq
  refine g_aload2 dL_law_1212 (g_aload0 dL_law_1213 (g_iload3 dL_law_1214 (g_iconst ki_1 dL_law_1215 (g_iadd dL_law_1216 (g_sld hsb dL_law_1217 hI.1 (g_aload0 dL_law_1218 (g_iload3 dL_law_1219 (g_iconst ki_2 dL_law_1220 (g_iadd dL_law_1221 (g_sld hsb dL_law_1222 hI.2.1 (?_)))))))))))
  refine g_V2i dL_law_1223 mv_L_163 i2 he2 rfl rfl (Nat.le_of_ble_eq_true rfl) (Nat.le_of_ble_eq_true rfl) hc2 (fun r2 w2 hq => ?_)
  obtain ⟨rfl, hw⟩ := hq
  exact g_icmp_eq (tgt := 1231) dL_law_1226 (by decide) (fun _ => kk _ hw) (fun q => absurd rfl q)
end S9v
