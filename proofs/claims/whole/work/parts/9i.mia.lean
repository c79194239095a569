/-! the model's constructor -/
section S9i0
variable {E : GE} {M : GM} {d mc ms : Nat} {A : Nat → Prop} {Q : Option Value → va_W → Prop} {k n pc q : Nat} {ls : List (Option Value)} {st : List Value} {fs : List Value} {arr : va_W}
set_option maxHeartbeats 1000000 in
theorem mi_i {N idx kf : Nat} {x : Int32} (hf : FL M.1.cls idx 7 kf) (hp : FP 7 kf (.array .int) true) (hM : M.1.name = "<init>") (hC : vwCl[7]?.map (fun r => r.1) = some M.1.cls) (hx : x.toInt = N) (hN : N ≤ 1000) (hl : fs.length = 56) (hkf : kf < 56) (hd : decode M.2.1 pc = .ok (.newarray .int, 2)) (hd2 : decode M.2.1 (pc + 2) = .ok (.putfield idx, 3)) (hk : Nat.ble (k + 1) mc = true) (hk2 : Nat.ble (n + N) ms = true) (kk : ∀ q' : Nat, (fs.set kf (.ref q')).length = 56 → G E M d mc ms A Q (k + 1) (n + N) (pc + 5) ls st ((q, .inr (7, fs.set kf (.ref q'))) :: (arr ++ [(q', ia E N (fun _ => 0))]))) : G E M d mc ms A Q k n pc ls (.int x :: .ref q :: st) ((q, .inr (7, fs)) :: arr) :=
  g_newi hx hN hd (Nat.le_of_ble_eq_true hk) (Nat.le_of_ble_eq_true hk2) (fun q' => g_putF hf hp hM hC 0 rfl rfl rfl (by omega) hd2 (kk q' (by rw [List.length_set]; exact hl)))
set_option maxHeartbeats 1000000 in
theorem mi_z {N idx kf : Nat} {x : Int32} (hf : FL M.1.cls idx 7 kf) (hp : FP 7 kf (.array .boolean) true) (hM : M.1.name = "<init>") (hC : vwCl[7]?.map (fun r => r.1) = some M.1.cls) (hx : x.toInt = N) (hN : N ≤ 1000) (hl : fs.length = 56) (hkf : kf < 56) (hd : decode M.2.1 pc = .ok (.newarray .boolean, 2)) (hd2 : decode M.2.1 (pc + 2) = .ok (.putfield idx, 3)) (hk : Nat.ble (k + 1) mc = true) (hk2 : Nat.ble (n + N) ms = true) (kk : ∀ q' : Nat, (fs.set kf (.ref q')).length = 56 → G E M d mc ms A Q (k + 1) (n + N) (pc + 5) ls st ((q, .inr (7, fs.set kf (.ref q'))) :: (arr ++ [(q', .inl (E.2.2.1 1, N, .inl (fun _ => 0)))]))) : G E M d mc ms A Q k n pc ls (.int x :: .ref q :: st) ((q, .inr (7, fs)) :: arr) :=
  g_newz hx hN hd (Nat.le_of_ble_eq_true hk) (Nat.le_of_ble_eq_true hk2) (fun q' => g_putF hf hp hM hC 0 rfl rfl rfl (by omega) hd2 (kk q' (by rw [List.length_set]; exact hl)))
set_option maxHeartbeats 1000000 in
theorem mi_p {idx kf : Nat} {x : Int32} (hf : FL M.1.cls idx 7 kf) (hp : FP 7 kf .int false) (hl : fs.length = 56) (hkf : kf < 56) (hd : decode M.2.1 pc = .ok (.putfield idx, 3)) (kk : (fs.set kf (.int x)).length = 56 → G E M d mc ms A Q k n (pc + 3) ls st ((q, .inr (7, fs.set kf (.int x))) :: arr)) : G E M d mc ms A Q k n pc ls (.int x :: .ref q :: st) ((q, .inr (7, fs)) :: arr) :=
  g_put hf hp 0 rfl rfl rfl (by omega) hd (kk (by rw [List.length_set]; exact hl))
end S9i0
section S9i
variable {E : GE} {d q : Nat}
set_option maxRecDepth 40000 in
set_option maxHeartbeats 4000000 in
theorem i_model0 {A : Nat → Prop} {Q : Option Value → va_W → Prop} (kk : ∀ b : Nat → Nat, b 0 = q → G E mX8_init (d + 2) 26 1700 A Q 26 1700 215 [some (.ref (b 0))] [] (mW E b (upd z0f 49 (-1)) 0 (fun _ _ => 0))) : G E mX8_init (d + 2) 26 1700 A Q 0 0 0 [some (.ref q)] [] [(q, .inr (7, nwX8))] := by
  refine g_aload0 dX8_init_0 (g_obj (gw_at (i := 941) (by decide +kernel) rfl) dX8_init_1 ?_)
  have l0 : nwX8.length = 56 := rfl
  refine g_aload0 dX8_init_4 (g_sipush ks_960 dX8_init_5 (mi_i (N := 960) fl_X8_13 fp_7_1 rfl rfl (by decide) (by decide) l0 (by decide) dX8_init_8 dX8_init_10 rfl rfl (fun q1 l1 => ?_)))
  refine g_aload0 dX8_init_13 (g_bipush kb_6 dX8_init_14 (mi_i (N := 6) fl_X8_17 fp_7_2 rfl rfl (by decide) (by decide) l1 (by decide) dX8_init_16 dX8_init_18 rfl rfl (fun q2 l2 => ?_)))
  refine g_aload0 dX8_init_21 (g_sipush ks_160 dX8_init_22 (mi_i (N := 160) fl_X8_20 fp_7_5 rfl rfl (by decide) (by decide) l2 (by decide) dX8_init_25 dX8_init_27 rfl rfl (fun q3 l3 => ?_)))
  refine g_aload0 dX8_init_30 (g_bipush kb_6 dX8_init_31 (mi_i (N := 6) fl_X8_23 fp_7_7 rfl rfl (by decide) (by decide) l3 (by decide) dX8_init_33 dX8_init_35 rfl rfl (fun q4 l4 => ?_)))
  refine g_aload0 dX8_init_38 (g_bipush kb_6 dX8_init_39 (mi_i (N := 6) fl_X8_26 fp_7_8 rfl rfl (by decide) (by decide) l4 (by decide) dX8_init_41 dX8_init_43 rfl rfl (fun q5 l5 => ?_)))
  refine g_aload0 dX8_init_46 (g_bipush kb_6 dX8_init_47 (mi_i (N := 6) fl_X8_29 fp_7_9 rfl rfl (by decide) (by decide) l5 (by decide) dX8_init_49 dX8_init_51 rfl rfl (fun q6 l6 => ?_)))
  refine g_aload0 dX8_init_54 (g_bipush kb_6 dX8_init_55 (mi_i (N := 6) fl_X8_32 fp_7_10 rfl rfl (by decide) (by decide) l6 (by decide) dX8_init_57 dX8_init_59 rfl rfl (fun q7 l7 => ?_)))
  refine g_aload0 dX8_init_62 (g_bipush kb_6 dX8_init_63 (mi_i (N := 6) fl_X8_35 fp_7_11 rfl rfl (by decide) (by decide) l7 (by decide) dX8_init_65 dX8_init_67 rfl rfl (fun q8 l8 => ?_)))
  refine g_aload0 dX8_init_70 (g_bipush kb_40 dX8_init_71 (mi_i (N := 40) fl_X8_38 fp_7_13 rfl rfl (by decide) (by decide) l8 (by decide) dX8_init_73 dX8_init_75 rfl rfl (fun q9 l9 => ?_)))
  refine g_aload0 dX8_init_78 (g_bipush kb_40 dX8_init_79 (mi_i (N := 40) fl_X8_41 fp_7_14 rfl rfl (by decide) (by decide) l9 (by decide) dX8_init_81 dX8_init_83 rfl rfl (fun q10 l10 => ?_)))
  refine g_aload0 dX8_init_86 (g_bipush kb_40 dX8_init_87 (mi_i (N := 40) fl_X8_44 fp_7_31 rfl rfl (by decide) (by decide) l10 (by decide) dX8_init_89 dX8_init_91 rfl rfl (fun q11 l11 => ?_)))
  refine g_aload0 dX8_init_94 (g_bipush kb_40 dX8_init_95 (mi_i (N := 40) fl_X8_47 fp_7_32 rfl rfl (by decide) (by decide) l11 (by decide) dX8_init_97 dX8_init_99 rfl rfl (fun q12 l12 => ?_)))
  refine g_aload0 dX8_init_102 (g_bipush kb_40 dX8_init_103 (mi_i (N := 40) fl_X8_50 fp_7_33 rfl rfl (by decide) (by decide) l12 (by decide) dX8_init_105 dX8_init_107 rfl rfl (fun q13 l13 => ?_)))
  refine g_aload0 dX8_init_110 (g_bipush kb_6 dX8_init_111 (mi_i (N := 6) fl_X8_53 fp_7_35 rfl rfl (by decide) (by decide) l13 (by decide) dX8_init_113 dX8_init_115 rfl rfl (fun q14 l14 => ?_)))
  refine g_aload0 dX8_init_118 (g_bipush kb_6 dX8_init_119 (mi_i (N := 6) fl_X8_56 fp_7_36 rfl rfl (by decide) (by decide) l14 (by decide) dX8_init_121 dX8_init_123 rfl rfl (fun q15 l15 => ?_)))
  refine g_aload0 dX8_init_126 (g_iconst ki_4 dX8_init_127 (mi_i (N := 4) fl_X8_59 fp_7_38 rfl rfl (by decide) (by decide) l15 (by decide) dX8_init_128 dX8_init_130 rfl rfl (fun q16 l16 => ?_)))
  refine g_aload0 dX8_init_133 (g_iconst ki_4 dX8_init_134 (mi_i (N := 4) fl_X8_62 fp_7_39 rfl rfl (by decide) (by decide) l16 (by decide) dX8_init_135 dX8_init_137 rfl rfl (fun q17 l17 => ?_)))
  refine g_aload0 dX8_init_140 (g_bipush kb_6 dX8_init_141 (mi_i (N := 6) fl_X8_65 fp_7_42 rfl rfl (by decide) (by decide) l17 (by decide) dX8_init_143 dX8_init_145 rfl rfl (fun q18 l18 => ?_)))
  refine g_aload0 dX8_init_148 (g_bipush kb_6 dX8_init_149 (mi_i (N := 6) fl_X8_68 fp_7_43 rfl rfl (by decide) (by decide) l18 (by decide) dX8_init_151 dX8_init_153 rfl rfl (fun q19 l19 => ?_)))
  refine g_aload0 dX8_init_156 (g_bipush kb_36 dX8_init_157 (mi_i (N := 36) fl_X8_71 fp_7_46 rfl rfl (by decide) (by decide) l19 (by decide) dX8_init_159 dX8_init_161 rfl rfl (fun q20 l20 => ?_)))
  refine g_aload0 dX8_init_164 (g_bipush kb_24 dX8_init_165 (mi_i (N := 24) fl_X8_74 fp_7_47 rfl rfl (by decide) (by decide) l20 (by decide) dX8_init_167 dX8_init_169 rfl rfl (fun q21 l21 => ?_)))
  refine g_aload0 dX8_init_172 (g_bipush kb_80 dX8_init_173 (mi_i (N := 80) fl_X8_77 fp_7_48 rfl rfl (by decide) (by decide) l21 (by decide) dX8_init_175 dX8_init_177 rfl rfl (fun q22 l22 => ?_)))
  refine g_aload0 dX8_init_180 (g_iconst ki_m1 dX8_init_181 (mi_p fl_X8_80 fp_7_49 l22 (by decide) dX8_init_182 (fun l23 => ?_)))
  refine g_aload0 dX8_init_185 (g_iconst ki_4 dX8_init_186 (mi_z (N := 4) fl_X8_83 fp_7_52 rfl rfl (by decide) (by decide) l23 (by decide) dX8_init_187 dX8_init_189 rfl rfl (fun q24 l24 => ?_)))
  refine g_aload0 dX8_init_192 (g_iconst ki_4 dX8_init_193 (mi_i (N := 4) fl_X8_87 fp_7_53 rfl rfl (by decide) (by decide) l24 (by decide) dX8_init_194 dX8_init_196 rfl rfl (fun q25 l25 => ?_)))
  refine g_aload0 dX8_init_199 (g_iconst ki_4 dX8_init_200 (mi_i (N := 4) fl_X8_90 fp_7_54 rfl rfl (by decide) (by decide) l25 (by decide) dX8_init_201 dX8_init_203 rfl rfl (fun q26 l26 => ?_)))
  refine g_aload0 dX8_init_206 (g_sipush ks_160 dX8_init_207 (mi_i (N := 160) fl_X8_93 fp_7_55 rfl rfl (by decide) (by decide) l26 (by decide) dX8_init_210 dX8_init_212 rfl rfl (fun q27 l27 => ?_)))
  generalize hb : adr [q, q1, q2, q3, q4, q5, q6, q7, q8, q9, q10, q11, q12, q13, q14, q15, q16, q17, q18, q19, q20, q21, q22, q24, q25, q26, q27] id = b
  have b0 : b 0 = q := by rw [← hb]; rfl
  have b1 : b 1 = q1 := by rw [← hb]; rfl
  have b2 : b 2 = q2 := by rw [← hb]; rfl
  have b3 : b 3 = q3 := by rw [← hb]; rfl
  have b4 : b 4 = q4 := by rw [← hb]; rfl
  have b5 : b 5 = q5 := by rw [← hb]; rfl
  have b6 : b 6 = q6 := by rw [← hb]; rfl
  have b7 : b 7 = q7 := by rw [← hb]; rfl
  have b8 : b 8 = q8 := by rw [← hb]; rfl
  have b9 : b 9 = q9 := by rw [← hb]; rfl
  have b10 : b 10 = q10 := by rw [← hb]; rfl
  have b11 : b 11 = q11 := by rw [← hb]; rfl
  have b12 : b 12 = q12 := by rw [← hb]; rfl
  have b13 : b 13 = q13 := by rw [← hb]; rfl
  have b14 : b 14 = q14 := by rw [← hb]; rfl
  have b15 : b 15 = q15 := by rw [← hb]; rfl
  have b16 : b 16 = q16 := by rw [← hb]; rfl
  have b17 : b 17 = q17 := by rw [← hb]; rfl
  have b18 : b 18 = q18 := by rw [← hb]; rfl
  have b19 : b 19 = q19 := by rw [← hb]; rfl
  have b20 : b 20 = q20 := by rw [← hb]; rfl
  have b21 : b 21 = q21 := by rw [← hb]; rfl
  have b22 : b 22 = q22 := by rw [← hb]; rfl
  have b23 : b 23 = q24 := by rw [← hb]; rfl
  have b24 : b 24 = q25 := by rw [← hb]; rfl
  have b25 : b 25 = q26 := by rw [← hb]; rfl
  have b26 : b 26 = q27 := by rw [← hb]; rfl
  have kb := kk b b0
  unfold mW mF at kb
  rw [b0, b1, b2, b3, b4, b5, b6, b7, b8, b9, b10, b11, b12, b13, b14, b15, b16, b17, b18, b19, b20, b21, b22, b23, b24, b25, b26] at kb
  simp only [List.set_cons_succ, List.set_cons_zero, List.nil_append, List.cons_append]
  exact kb
end S9i
