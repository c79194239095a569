section S9i2
variable {E : GE} {d q : Nat}
def B40 : List Nat := [111, 100, 100, 115, 32, 112, 97, 99, 101, 32, 59, 32, 119, 111, 114, 116, 104, 32, 49, 48, 32, 45, 32, 112, 97, 99, 101, 32, 59, 32, 109, 105, 110, 100, 115, 32, 49, 32, 59, 32]
def spL (s : Nat) : List Int32 := if s = 0 then [111, 100, 100, 115, 32, 112, 97, 99] else if s = 1 then [101, 32, 59, 32, 119, 111, 114, 116] else if s = 2 then [104, 32, 49, 48, 32, 45, 32, 112] else if s = 3 then [97, 99, 101, 32, 59, 32, 109, 105] else [110, 100, 115, 32, 49, 32, 59, 32]
theorem mi_by : ∀ s j, s < 5 → j < 8 → (spL s).getD j 0 = nI (B40.getD (8 * s + j) 0) := by
  have h : ∀ s, s < 5 → ∀ j, j < 8 → (spL s).getD j 0 = nI (B40.getD (8 * s + j) 0) := by decide +kernel
  exact fun s j hs hj => h s hs j hj
set_option maxRecDepth 40000 in
set_option maxHeartbeats 4000000 in
theorem i_model (hN : g_N E) : g_C E mX8_init (d + 4) 26 1700 [.ref q] [(q, .inr (7, nwX8))] (fun v w => v = none ∧ ∃ b f, b 0 = q ∧ w = mW E b (upd (upd z0f 49 (-1)) 3 1) 0 f ∧ TB B40 0 f ∧ agF [1, 2] (fun _ _ => 0) f) := by
  refine g_enter hN.1 (by decide) [some (.ref q)] rfl (Nat.le_of_ble_eq_true rfl) (fun A => ?_)
  refine i_model0 (d := d + 2) (fun b hb => ?_)
  generalize hf0 : (fun _ _ => 0 : Nat → Nat → Int32) = f0
  refine g_aload0 dX8_init_215 (g_iconst ki_0 dX8_init_216 (g_bipush kb_111 dX8_init_217 (g_bipush kb_100 dX8_init_219 (g_bipush kb_100 dX8_init_221 (g_bipush kb_115 dX8_init_223 (g_bipush kb_32 dX8_init_225 (g_bipush kb_112 dX8_init_227 (g_bipush kb_97 dX8_init_229 (g_bipush kb_99 dX8_init_231 (?c233))))))))))
  refine g_V9v dX8_init_233 mv_X8_96 0 rfl rfl rfl (Nat.le_of_ble_eq_true rfl) (Nat.le_of_ble_eq_true rfl) (c_X8_spell hN (X := 0) (by omega) 111 100 100 115 32 112 97 99) (fun w1 hq => ?_)
  obtain ⟨f1, rfl, a1, s1, o1⟩ := hq
  refine g_aload0 dX8_init_236 (g_bipush kb_8 dX8_init_237 (g_bipush kb_101 dX8_init_239 (g_bipush kb_32 dX8_init_241 (g_bipush kb_59 dX8_init_243 (g_bipush kb_32 dX8_init_245 (g_bipush kb_119 dX8_init_247 (g_bipush kb_111 dX8_init_249 (g_bipush kb_114 dX8_init_251 (g_bipush kb_116 dX8_init_253 (?c255_2))))))))))
  refine g_V9v dX8_init_255 mv_X8_96 0 rfl rfl rfl (Nat.le_of_ble_eq_true rfl) (Nat.le_of_ble_eq_true rfl) (c_X8_spell hN (X := 8) (by omega) 101 32 59 32 119 111 114 116) (fun w1 hq => ?_)
  obtain ⟨f2, rfl, a2, s2, o2⟩ := hq
  refine g_aload0 dX8_init_258 (g_bipush kb_16 dX8_init_259 (g_bipush kb_104 dX8_init_261 (g_bipush kb_32 dX8_init_263 (g_bipush kb_49 dX8_init_265 (g_bipush kb_48 dX8_init_267 (g_bipush kb_32 dX8_init_269 (g_bipush kb_45 dX8_init_271 (g_bipush kb_32 dX8_init_273 (g_bipush kb_112 dX8_init_275 (?c277_3))))))))))
  refine g_V9v dX8_init_277 mv_X8_96 0 rfl rfl rfl (Nat.le_of_ble_eq_true rfl) (Nat.le_of_ble_eq_true rfl) (c_X8_spell hN (X := 16) (by omega) 104 32 49 48 32 45 32 112) (fun w1 hq => ?_)
  obtain ⟨f3, rfl, a3, s3, o3⟩ := hq
  refine g_aload0 dX8_init_280 (g_bipush kb_24 dX8_init_281 (g_bipush kb_97 dX8_init_283 (g_bipush kb_99 dX8_init_285 (g_bipush kb_101 dX8_init_287 (g_bipush kb_32 dX8_init_289 (g_bipush kb_59 dX8_init_291 (g_bipush kb_32 dX8_init_293 (g_bipush kb_109 dX8_init_295 (g_bipush kb_105 dX8_init_297 (?c299_4))))))))))
  refine g_V9v dX8_init_299 mv_X8_96 0 rfl rfl rfl (Nat.le_of_ble_eq_true rfl) (Nat.le_of_ble_eq_true rfl) (c_X8_spell hN (X := 24) (by omega) 97 99 101 32 59 32 109 105) (fun w1 hq => ?_)
  obtain ⟨f4, rfl, a4, s4, o4⟩ := hq
  refine g_aload0 dX8_init_302 (g_bipush kb_32 dX8_init_303 (g_bipush kb_110 dX8_init_305 (g_bipush kb_100 dX8_init_307 (g_bipush kb_115 dX8_init_309 (g_bipush kb_32 dX8_init_311 (g_bipush kb_49 dX8_init_313 (g_bipush kb_32 dX8_init_315 (g_bipush kb_59 dX8_init_317 (g_bipush kb_32 dX8_init_319 (?c321_5))))))))))
  refine g_V9v dX8_init_321 mv_X8_96 0 rfl rfl rfl (Nat.le_of_ble_eq_true rfl) (Nat.le_of_ble_eq_true rfl) (c_X8_spell hN (X := 32) (by omega) 110 100 115 32 49 32 59 32) (fun w1 hq => ?_)
  obtain ⟨f5, rfl, a5, s5, o5⟩ := hq
  refine g_aload0 dX8_init_324 (g_mget fl_X8_17 mg_2 dX8_init_325 (g_iconst ki_0 dX8_init_328 (g_bipush kb_40 dX8_init_329 (g_mis ma_2 mas_2 dX8_init_331 ?b331_6 (g_aload0 dX8_init_332 (g_iconst ki_1 dX8_init_333 (g_mput fl_X8_100 fp_7_3 ms_3 rfl rfl rfl dX8_init_334 (g_vret rfl dX8_init_337 (Nat.le_of_ble_eq_true rfl) (Nat.le_of_ble_eq_true rfl) ?q337_6))))))))
  case b331_6 => exact ⟨by decide, by decide⟩
  case q337_6 =>
    have hall : agF [1, 2] f0 (updA f5 2 (upd (f5 2) ((0 : Int32).toInt.toNat) 40)) := by
      refine agF.up ?_ 2 _ rfl
      exact ((((a1.tr a2).tr a3).tr a4).tr a5).wk rfl
    refine ⟨rfl, b, _, hb, rfl, ⟨by decide, by decide, ?_, ?_⟩, hall⟩
    · rw [updA_s]; exact upd_s
    · intro i x hi
      rw [updA_o (by decide), Nat.mul_zero, Nat.zero_add]
      have hlt : i < 40 := (List.getElem?_eq_some_iff.mp hi).1
      have hx : x = B40.getD i 0 := by rw [List.getD_eq_getElem?_getD, hi]; rfl
      rw [hx]
      by_cases c4 : 32 ≤ i
      · have k1 := s5 (i - 32) (by omega)
        rw [show 32 + (i - 32) = i by omega] at k1
        rw [k1]
        exact (mi_by 4 (i - 32) (by omega) (by omega)).trans (by rw [show 8 * 4 + (i - 32) = i by omega])
      · rw [o5 i (by omega)]
        by_cases c3 : 24 ≤ i
        · have k1 := s4 (i - 24) (by omega)
          rw [show 24 + (i - 24) = i by omega] at k1
          rw [k1]
          exact (mi_by 3 (i - 24) (by omega) (by omega)).trans (by rw [show 8 * 3 + (i - 24) = i by omega])
        · rw [o4 i (by omega)]
          by_cases c2 : 16 ≤ i
          · have k1 := s3 (i - 16) (by omega)
            rw [show 16 + (i - 16) = i by omega] at k1
            rw [k1]
            exact (mi_by 2 (i - 16) (by omega) (by omega)).trans (by rw [show 8 * 2 + (i - 16) = i by omega])
          · rw [o3 i (by omega)]
            by_cases c1 : 8 ≤ i
            · have k1 := s2 (i - 8) (by omega)
              rw [show 8 + (i - 8) = i by omega] at k1
              rw [k1]
              exact (mi_by 1 (i - 8) (by omega) (by omega)).trans (by rw [show 8 * 1 + (i - 8) = i by omega])
            · rw [o2 i (by omega)]
              have k1 := s1 i (by omega)
              rw [Nat.zero_add] at k1
              rw [k1]
              exact (mi_by 0 i (by omega) (by omega)).trans (by rw [Nat.mul_zero, Nat.zero_add])
end S9i2
