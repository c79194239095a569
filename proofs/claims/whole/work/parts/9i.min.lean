/-! the model's constructor -/
section S9i0
variable {E : GE} {M : GM} {d mc ms : Nat} {A : Nat → Prop} {Q : Option Value → va_W → Prop} {k n pc q : Nat} {ls : List (Option Value)} {st : List Value} {fs : List Value} {arr : va_W}
set_option maxHeartbeats 1000000 in
theorem mi_i {N idx kf : Nat} {x : Int32} (hf : FL M.1.cls idx 7 kf) (hp : FP 7 kf (.array .int) true) (hM : M.1.name = "<init>") (hC : vwCl[7]?.map (fun r => r.1) = some M.1.cls) (hx : x.toInt = N) (hN : N ≤ 1000) (hl : fs.length = 56) (hkf : kf < 56) (hd : decode M.2.1 pc = .ok (.newarray .int, 2)) (hd2 : decode M.2.1 (pc + 2) = .ok (.putfield idx, 3)) (hk : Nat.ble (k + 1) mc = true) (hk2 : Nat.ble (n + N) ms = true) (kk : ∀ q' : Nat, (fs.set kf (.ref q')).length = 56 → G E M d mc ms A Q (k + 1) (n + N) (pc + 5) ls st ((q, .inr (7, fs.set kf (.ref q'))) :: (arr ++ [(q', ia E N (fun _ => 0))]))) : G E M d mc ms A Q k n pc ls (.int x :: .ref q :: st) ((q, .inr (7, fs)) :: arr) :=
  g_newi hx hN hd (Nat.le_of_ble_eq_true hk) (Nat.le_of_ble_eq_true hk2) (fun q' => g_putF hf hp hM hC 0 rfl rfl rfl (by omega) hd2 (kk q' (by rw [List.length_set]; exact hl)))
set_option maxHeartbeats 1000000 in
theorem mi_z {N idx kf : Nat} {x : Int32} (hf : FL M.1.cls idx 7 kf) (hp : FP 7 kf (.array .boolean) true) (hM : M.1.name = "<init>") (hC : vwCl[7]?.map (fun r => r.1) = some M.1.cls) (hx : x.toInt = N) (hN : N ≤ 1000) (hl : fs.length = 56) (hkf : kf < 56) (hd : decode M.2.1 pc = .ok (.newarray .boolean, 2)) (hd2 : decode M.2.1 (pc + 2) = .ok (.putfield idx, 3)) (hk : Nat.ble (k + 1) mc = true) (hk2 : Nat.ble (n + N) ms = true) (kk : ∀ q' : Nat, (fs.set kf (.ref q')).length = 56 → G E M d mc ms A Q (k + 1) (n + N) (pc + 5) ls st ((q, .inr (7, fs.set kf (.ref q'))) :: (arr ++ [(q', .inl (E.2.2.1 1, N, .inl (fun _ => 0)))]))) : G E M d mc ms A Q k n pc ls (.int x :: .ref q :: st) ((q, .inr (7, fs)) :: arr) :=
  g_newz hx hN hd (Nat.le_of_ble_eq_true hk) (Nat.le_of_ble_eq_true hk2) (fun q' => g_putF hf hp hM hC 0 rfl rfl rfl (by omega) hd2 (kk q' (by rw [List.length_set]; exact hl)))
set_option maxHeartbeats 1000000 in
theorem mi_p {idx kf : Nat} {x : Int32} (hf : FL M.1.cls idx 7 kf) (hp : FP 7 kf .int false) (hl : fs.length = 56) (hkf : kf < 56) (hd : decode M.2.1 pc = .ok (.putfield idx, 3)) (kk : (fs.set kf (.int x)).length = 56 → G E M d mc ms A Q k n (pc + 3) ls st ((q, .inr (7, fs.set kf (.int x))) :: arr)) : G E M d mc ms A Q k n pc ls (.int x :: .ref q :: st) ((q, .inr (7, fs)) :: arr) :=
  g_put hf hp 0 rfl rfl rfl (by omega) hd (kk (by rw [List.length_set]; exact hl))
end S9i0
section S9i
variable {E : GE} {d q : Nat}
def B40 : List Nat := [111, 100, 100, 115, 32, 112, 97, 99, 101, 32, 59, 32, 119, 111, 114, 116, 104, 32, 49, 48, 32, 45, 32, 112, 97, 99, 101, 32, 59, 32, 109, 105, 110, 100, 115, 32, 49, 32, 59, 32]
set_option maxRecDepth 40000 in
set_option maxHeartbeats 4000000 in
theorem i_model0 {A : Nat → Prop} {Q : Option Value → va_W → Prop} (kk : ∀ b : Nat → Nat, b 0 = q → G E mX8_init (d + 2) 26 1700 A Q 26 1700 215 [some (.ref (b 0))] [] (mW E b (upd z0f 49 (-1)) 0 (fun _ _ => 0))) : G E mX8_init (d + 2) 26 1700 A Q 0 0 0 [some (.ref q)] [] [(q, .inr (7, nwX8))] := by
  refine g_aload0 dX8_init_0 (g_obj (gw_at (i := 941) (by decide +kernel) rfl) dX8_init_1 ?_)
  have l0 : nwX8.length = 56 := rfl
  refine g_aload0 dX8_init_4 (g_sipush ks_960 dX8_init_5 (mi_i (N := 960) fl_X8_13 fp_7_1 rfl rfl (by decide) (by decide) l0 (by decide) dX8_init_8 dX8_init_10 rfl rfl (fun q1 l1 => ?_)))
  refine g_aload0 dX8_init_13 (g_bipush kb_6 dX8_init_14 (mi_i (N := 6) fl_X8_17 fp_7_2 rfl rfl (by decide) (by decide) l1 (by decide) dX8_init_16 dX8_init_18 rfl rfl (fun q2 l2 => ?_)))
  refine g_aload0 dX8_init_21 (g_sipush ks_160 dX8_init_22 (mi_i (N := 160) fl_X8_20 fp_7_5 rfl rfl (by decide) (by decide) l2 (by decide) dX8_init_25 dX8_init_27 rfl rfl (fun q3 l3 => ?_)))
  refine g_aload0 dX8_init_30 (g_bipush kb_6 dX8_init_31 (mi_i (N := 6) fl_X8_23 fp_7_7 rfl rfl (by decide) (by decide) l3 (by decide) dX8_init_33 dX8_init_35 rfl rfl (fun q4 l4 => ?_)))
  refine g_aload0 dX8_init_38 (g_bipush kb_6 dX8_init_39 (mi_i (N := 6) fl_X8_26 fp_7_8 rfl rfl (by decide) (by decide) l4 (by decide) dX8_init_41 dX8_init_43 rfl rfl (fun q5 l5 => ?_)))
  refine g_aload0 dX8_init_46 (g_bipush kb_6 dX8_init_47 (mi_i (N := 6) fl_X8_29 fp_7_9 rfl rfl (by decide) (by decide) l5 (by decide) dX8_init_49 dX8_init_51 rfl rfl (fun q6 l6 => ?_)))
  refine g_aload0 dX8_init_54 (g_bipush kb_6 dX8_init_55 (mi_i (N := 6) fl_X8_32 fp_7_10 rfl rfl (by decide) (by decide) l6 (by decide) dX8_init_57 dX8_init_59 rfl rfl (fun q7 l7 => ?_)))
  refine g_aload0 dX8_init_62 (g_bipush kb_6 dX8_init_63 (mi_i (N := 6) fl_X8_35 fp_7_11 rfl rfl (by decide) (by decide) l7 (by decide) dX8_init_65 dX8_init_67 rfl rfl (fun q8 l8 => ?_)))
  refine g_aload0 dX8_init_70 (g_bipush kb_40 dX8_init_71 (mi_i (N := 40) fl_X8_38 fp_7_13 rfl rfl (by decide) (by decide) l8 (by decide) dX8_init_73 dX8_init_75 rfl rfl (fun q9 l9 => ?_)))
  refine g_aload0 dX8_init_78 (g_bipush kb_40 dX8_init_79 (mi_i (N := 40) fl_X8_41 fp_7_14 rfl rfl (by decide) (by decide) l9 (by decide) dX8_init_81 dX8_init_83 rfl rfl (fun q10 l10 => ?_)))
  refine g_aload0 dX8_init_86 (g_bipush kb_40 dX8_init_87 (mi_i (N := 40) fl_X8_44 fp_7_31 rfl rfl (by decide) (by decide) l10 (by decide) dX8_init_89 dX8_init_91 rfl rfl (fun q11 l11 => ?_)))
  refine g_aload0 dX8_init_94 (g_bipush kb_40 dX8_init_95 (mi_i (N := 40) fl_X8_47 fp_7_32 rfl rfl (by decide) (by decide) l11 (by decide) dX8_init_97 dX8_init_99 rfl rfl (fun q12 l12 => ?_)))
  refine g_aload0 dX8_init_102 (g_bipush kb_40 dX8_init_103 (mi_i (N := 40) fl_X8_50 fp_7_33 rfl rfl (by decide) (by decide) l12 (by decide) dX8_init_105 dX8_init_107 rfl rfl (fun q13 l13 => ?_)))
  refine g_aload0 dX8_init_110 (g_bipush kb_6 dX8_init_111 (mi_i (N := 6) fl_X8_53 fp_7_35 rfl rfl (by decide) (by decide) l13 (by decide) dX8_init_113 dX8_init_115 rfl rfl (fun q14 l14 => ?_)))
  refine g_aload0 dX8_init_118 (g_bipush kb_6 dX8_init_119 (mi_i (N := 6) fl_X8_56 fp_7_36 rfl rfl (by decide) (by decide) l14 (by decide) dX8_init_121 dX8_init_123 rfl rfl (fun q15 l15 => ?_)))
  refine g_aload0 dX8_init_126 (g_iconst ki_4 dX8_init_127 (mi_i (N := 4) fl_X8_59 fp_7_38 rfl rfl (by decide) (by decide) l15 (by decide) dX8_init_128 dX8_init_130 rfl rfl (fun q16 l16 => ?_)))
  refine g_aload0 dX8_init_133 (g_iconst ki_4 dX8_init_134 (mi_i (N := 4) fl_X8_62 fp_7_39 rfl rfl (by decide) (by decide) l16 (by decide) dX8_init_135 dX8_init_137 rfl rfl (fun q17 l17 => ?_)))
  refine g_aload0 dX8_init_140 (g_bipush kb_6 dX8_init_141 (mi_i (N := 6) fl_X8_65 fp_7_42 rfl rfl (by decide) (by decide) l17 (by decide) dX8_init_143 dX8_init_145 rfl rfl (fun q18 l18 => ?_)))
  refine g_aload0 dX8_init_148 (g_bipush kb_6 dX8_init_149 (mi_i (N := 6) fl_X8_68 fp_7_43 rfl rfl (by decide) (by decide) l18 (by decide) dX8_init_151 dX8_init_153 rfl rfl (fun q19 l19 => ?_)))
  refine g_aload0 dX8_init_156 (g_bipush kb_36 dX8_init_157 (mi_i (N := 36) fl_X8_71 fp_7_46 rfl rfl (by decide) (by decide) l19 (by decide) dX8_init_159 dX8_init_161 rfl rfl (fun q20 l20 => ?_)))
  refine g_aload0 dX8_init_164 (g_bipush kb_24 dX8_init_165 (mi_i (N := 24) fl_X8_74 fp_7_47 rfl rfl (by decide) (by decide) l20 (by decide) dX8_init_167 dX8_init_169 rfl rfl (fun q21 l21 => ?_)))
  refine g_aload0 dX8_init_172 (g_bipush kb_80 dX8_init_173 (mi_i (N := 80) fl_X8_77 fp_7_48 rfl rfl (by decide) (by decide) l21 (by decide) dX8_init_175 dX8_init_177 rfl rfl (fun q22 l22 => ?_)))
  refine g_aload0 dX8_init_180 (g_iconst ki_m1 dX8_init_181 (mi_p fl_X8_80 fp_7_49 l22 (by decide) dX8_init_182 (fun l23 => ?_)))
  refine g_aload0 dX8_init_185 (g_iconst ki_4 dX8_init_186 (mi_z (N := 4) fl_X8_83 fp_7_52 rfl rfl (by decide) (by decide) l23 (by decide) dX8_init_187 dX8_init_189 rfl rfl (fun q24 l24 => ?_)))
  refine g_aload0 dX8_init_192 (g_iconst ki_4 dX8_init_193 (mi_i (N := 4) fl_X8_87 fp_7_53 rfl rfl (by decide) (by decide) l24 (by decide) dX8_init_194 dX8_init_196 rfl rfl (fun q25 l25 => ?_)))
  refine g_aload0 dX8_init_199 (g_iconst ki_4 dX8_init_200 (mi_i (N := 4) fl_X8_90 fp_7_54 rfl rfl (by decide) (by decide) l25 (by decide) dX8_init_201 dX8_init_203 rfl rfl (fun q26 l26 => ?_)))
  refine g_aload0 dX8_init_206 (g_sipush ks_160 dX8_init_207 (mi_i (N := 160) fl_X8_93 fp_7_55 rfl rfl (by decide) (by decide) l26 (by decide) dX8_init_210 dX8_init_212 rfl rfl (fun q27 l27 => ?_)))
  exact kk (adr [q, q1, q2, q3, q4, q5, q6, q7, q8, q9, q10, q11, q12, q13, q14, q15, q16, q17, q18, q19, q20, q21, q22, q24, q25, q26, q27] id) rfl
def spL (s : Nat) : List Int32 := if s = 0 then [111, 100, 100, 115, 32, 112, 97, 99] else if s = 1 then [101, 32, 59, 32, 119, 111, 114, 116] else if s = 2 then [104, 32, 49, 48, 32, 45, 32, 112] else if s = 3 then [97, 99, 101, 32, 59, 32, 109, 105] else [110, 100, 115, 32, 49, 32, 59, 32]
theorem mi_by : ∀ s j, s < 5 → j < 8 → (spL s).getD j 0 = nI (B40.getD (8 * s + j) 0) := by
  have h : ∀ s, s < 5 → ∀ j, j < 8 → (spL s).getD j 0 = nI (B40.getD (8 * s + j) 0) := by decide +kernel
  exact fun s j hs hj => h s hs j hj
set_option maxRecDepth 40000 in
set_option maxHeartbeats 4000000 in
theorem i_model (hN : g_N E) : g_C E mX8_init (d + 4) 26 1700 [.ref q] [(q, .inr (7, nwX8))] (fun v w => v = none ∧ ∃ b f, b 0 = q ∧ w = mW E b (upd (upd z0f 49 (-1)) 3 1) 0 f ∧ TB B40 0 f ∧ agF [1, 2] (fun _ _ => 0) f) := by
  refine g_enter hN.1 (by decide) [some (.ref q)] rfl (Nat.le_of_ble_eq_true rfl) (fun A => ?_)
  refine i_model0 (d := d + 2) (fun b hb => ?_)
  generalize hf0 : (fun _ _ => 0 : Nat → Nat → Int32) = f0
  refine g_aload0 dX8_init_215 (g_iconst ki_0 dX8_init_216 (g_bipush kb_111 dX8_init_217 (g_bipush kb_100 dX8_init_219 (g_bipush kb_100 dX8_init_221 (g_bipush kb_115 dX8_init_223 (g_bipush kb_32 dX8_init_225 (g_bipush kb_112 dX8_init_227 (g_bipush kb_97 dX8_init_229 (g_bipush kb_99 dX8_init_231 (?c233))))))))))
  refine g_V9v dX8_init_233 mv_X8_96 0 rfl rfl rfl (Nat.le_of_ble_eq_true rfl) (Nat.le_of_ble_eq_true rfl) (c_X8_spell hN (X := 0) (by omega) 111 100 100 115 32 112 97 99) (fun w1 hq => ?_)
  obtain ⟨f1, rfl, a1, s1, o1⟩ := hq
  refine g_aload0 dX8_init_236 (g_bipush kb_8 dX8_init_237 (g_bipush kb_101 dX8_init_239 (g_bipush kb_32 dX8_init_241 (g_bipush kb_59 dX8_init_243 (g_bipush kb_32 dX8_init_245 (g_bipush kb_119 dX8_init_247 (g_bipush kb_111 dX8_init_249 (g_bipush kb_114 dX8_init_251 (g_bipush kb_116 dX8_init_253 (?c255_2))))))))))
  refine g_V9v dX8_init_255 mv_X8_96 0 rfl rfl rfl (Nat.le_of_ble_eq_true rfl) (Nat.le_of_ble_eq_true rfl) (c_X8_spell hN (X := 8) (by omega) 101 32 59 32 119 111 114 116) (fun w1 hq => ?_)
  obtain ⟨f2, rfl, a2, s2, o2⟩ := hq
  refine g_aload0 dX8_init_258 (g_bipush kb_16 dX8_init_259 (g_bipush kb_104 dX8_init_261 (g_bipush kb_32 dX8_init_263 (g_bipush kb_49 dX8_init_265 (g_bipush kb_48 dX8_init_267 (g_bipush kb_32 dX8_init_269 (g_bipush kb_45 dX8_init_271 (g_bipush kb_32 dX8_init_273 (g_bipush kb_112 dX8_init_275 (?c277_3))))))))))
  refine g_V9v dX8_init_277 mv_X8_96 0 rfl rfl rfl (Nat.le_of_ble_eq_true rfl) (Nat.le_of_ble_eq_true rfl) (c_X8_spell hN (X := 16) (by omega) 104 32 49 48 32 45 32 112) (fun w1 hq => ?_)
  obtain ⟨f3, rfl, a3, s3, o3⟩ := hq
  refine g_aload0 dX8_init_280 (g_bipush kb_24 dX8_init_281 (g_bipush kb_97 dX8_init_283 (g_bipush kb_99 dX8_init_285 (g_bipush kb_101 dX8_init_287 (g_bipush kb_32 dX8_init_289 (g_bipush kb_59 dX8_init_291 (g_bipush kb_32 dX8_init_293 (g_bipush kb_109 dX8_init_295 (g_bipush kb_105 dX8_init_297 (?c299_4))))))))))
  refine g_V9v dX8_init_299 mv_X8_96 0 rfl rfl rfl (Nat.le_of_ble_eq_true rfl) (Nat.le_of_ble_eq_true rfl) (c_X8_spell hN (X := 24) (by omega) 97 99 101 32 59 32 109 105) (fun w1 hq => ?_)
  obtain ⟨f4, rfl, a4, s4, o4⟩ := hq
  refine g_aload0 dX8_init_302 (g_bipush kb_32 dX8_init_303 (g_bipush kb_110 dX8_init_305 (g_bipush kb_100 dX8_init_307 (g_bipush kb_115 dX8_init_309 (g_bipush kb_32 dX8_init_311 (g_bipush kb_49 dX8_init_313 (g_bipush kb_32 dX8_init_315 (g_bipush kb_59 dX8_init_317 (g_bipush kb_32 dX8_init_319 (?c321_5))))))))))
  refine g_V9v dX8_init_321 mv_X8_96 0 rfl rfl rfl (Nat.le_of_ble_eq_true rfl) (Nat.le_of_ble_eq_true rfl) (c_X8_spell hN (X := 32) (by omega) 110 100 115 32 49 32 59 32) (fun w1 hq => ?_)
  obtain ⟨f5, rfl, a5, s5, o5⟩ := hq
  refine g_aload0 dX8_init_324 (g_mget fl_X8_17 mg_2 dX8_init_325 (g_iconst ki_0 dX8_init_328 (g_bipush kb_40 dX8_init_329 (g_mis ma_2 mas_2 dX8_init_331 ?b331_6 (g_aload0 dX8_init_332 (g_iconst ki_1 dX8_init_333 (g_mput fl_X8_100 fp_7_3 ms_3 rfl rfl rfl dX8_init_334 (g_vret rfl dX8_init_337 (Nat.le_of_ble_eq_true rfl) (Nat.le_of_ble_eq_true rfl) ?q337_6))))))))
  case b331_6 => exact ⟨by decide, by decide⟩
  case q337_6 =>
    have hall : agF [1, 2] f0 (updA f5 2 (upd (f5 2) ((0 : Int32).toInt.toNat) 40)) := by
      refine agF.up ?_ 2 _ rfl
      exact ((((a1.tr a2).tr a3).tr a4).tr a5).wk rfl
    refine ⟨rfl, b, _, hb, rfl, ⟨by decide, by decide, ?_, ?_⟩, hall⟩
    · rw [updA_s]; exact upd_s
    · intro i x hi
      rw [updA_o (by decide), Nat.mul_zero, Nat.zero_add]
      have hlt : i < 40 := (List.getElem?_eq_some_iff.mp hi).1
      have hx : x = B40.getD i 0 := by rw [List.getD_eq_getElem?_getD, hi]; rfl
      rw [hx]
      by_cases c4 : 32 ≤ i
      · have k1 := s5 (i - 32) (by omega)
        rw [show 32 + (i - 32) = i by omega] at k1
        rw [k1]
        exact (mi_by 4 (i - 32) (by omega) (by omega)).trans (by rw [show 8 * 4 + (i - 32) = i by omega])
      · rw [o5 i (by omega)]
        by_cases c3 : 24 ≤ i
        · have k1 := s4 (i - 24) (by omega)
          rw [show 24 + (i - 24) = i by omega] at k1
          rw [k1]
          exact (mi_by 3 (i - 24) (by omega) (by omega)).trans (by rw [show 8 * 3 + (i - 24) = i by omega])
        · rw [o4 i (by omega)]
          by_cases c2 : 16 ≤ i
          · have k1 := s3 (i - 16) (by omega)
            rw [show 16 + (i - 16) = i by omega] at k1
            rw [k1]
            exact (mi_by 2 (i - 16) (by omega) (by omega)).trans (by rw [show 8 * 2 + (i - 16) = i by omega])
          · rw [o3 i (by omega)]
            by_cases c1 : 8 ≤ i
            · have k1 := s2 (i - 8) (by omega)
              rw [show 8 + (i - 8) = i by omega] at k1
              rw [k1]
              exact (mi_by 1 (i - 8) (by omega) (by omega)).trans (by rw [show 8 * 1 + (i - 8) = i by omega])
            · rw [o2 i (by omega)]
              have k1 := s1 i (by omega)
              rw [Nat.zero_add] at k1
              rw [k1]
              exact (mi_by 0 i (by omega) (by omega)).trans (by rw [Nat.mul_zero, Nat.zero_add])
end S9i
