abbrev mK4 : List Nat := [3, 6, 22, 23, 24, 25, 26, 28, 29, 30]
section S84
variable {E : GE} {d : Nat} {b : Nat → Nat} {v : Nat → Int32} {t : Int64} {f : Nat → Nat → Int32} {B : List Nat} {D : Dg} {L : List Cr} {T : List Nat} {r : Nat}
set_option maxRecDepth 20000 in
set_option maxHeartbeats 4000000 in
theorem c_X8_text (hN : g_N E) {X : Nat} (hX : X ≤ 6) (h3 : v 3 = nI X) (hT : T.length ≤ 160) (hT2 : ∀ x ∈ T, x < 256) (h6 : v 6 = nI T.length) (hT3 : Lst T (f 5)) : g_Ci E mX8_text (d + 63) [.ref (b 0)] (mW E b v t f) (fun z w => (X = 6 → z = -4 ∧ w = mW E b v t f) ∧ (X < 6 → ∃ v' t' f', w = mW E b v' t' f' ∧ agV mK4 v v' ∧ agF [1, 2] f f' ∧ v' 6 = nI 0 ∧ (∀ ti B, ti < X → TB B ti f → TB B ti f') ∧ TB T X f' ∧ (reOK T → z = nI X ∧ v' 3 = nI (X + 1)) ∧ (¬ reOK T → z = -100 - nI (reAt T) ∧ v' 3 = nI X))) := by
  have eX := t_nI (n := X) (by omega)
  have eT := t_nI (n := T.length) (by omega)
  have e3 : (v 3).toInt = X := by rw [h3, eX]
  have e6 : (v 6).toInt = T.length := by rw [h6, eT]
  have em : (160 : Int32) * nI X = nI (160 * X) := by
    apply Int32.toInt_inj.mp
    rw [t_mul (by rw [tc_160, eX]; omega) (by rw [tc_160, eX]; omega), tc_160, eX, t_nI (by omega)]
    omega
  refine g_enterI hN.1 (by decide) [some (.ref (b 0)), none] rfl (Nat.le_of_ble_eq_true rfl) (fun A Q hQ => ?_)
  have tcm100 := tc_m100; have tcm4 := tc_m4; have tc0 := tc_0; have tc1 := tc_1; have tc6 := tc_6; have tc160 := tc_160
  have loop : ∀ u i f2, i + u = T.length → X < 6 → agF [1] f f2 → (∀ j, j < i → f2 1 (160 * X + j) = f 5 j) → (∀ m, m < 160 * X → f2 1 m = f 1 m) → G E mX8_text (d + 63) 0 0 A Q 0 0 14 [some (.ref (b 0)), some (.int (nI i))] [] (mW E b v t f2) := by
    intro u
    induction u with
    | zero =>
      intro i f2 hi hX6 hag hcp hlo
      have ei := t_nI (n := i) (by omega)
      refine g_iload1 dX8_text_14 (g_aload0 dX8_text_15 (g_mget fl_X8_137 mg_6 dX8_text_16 (g_icmp_ge (tgt := 49) dX8_text_19 (by decide) (fun h19 => g_aload0 dX8_text_49 (g_mget fl_X8_17 mg_2 dX8_text_50 (g_aload0 dX8_text_53 (g_mget fl_X8_100 mg_3 dX8_text_54 (g_aload0 dX8_text_57 (g_mget fl_X8_137 mg_6 dX8_text_58 (g_mis ma_2 mas_2 dX8_text_61 ?b61 (g_aload0 dX8_text_62 (g_iconst ki_0 dX8_text_63 (g_mput fl_X8_137 fp_7_6 ms_6 rfl rfl rfl dX8_text_64 (g_aload0 dX8_text_67 (g_aload0 dX8_text_68 (g_mget fl_X8_100 mg_3 dX8_text_69 (g_iconst ki_0 dX8_text_72 (?c73))))))))))))))) (fun h19 => ?s22))))
      case s22 => omega
      case b61 => omega
      case c73 =>
        rw [e3, Int.toNat_natCast]
        have ux : upd v 6 0 3 = nI X := by rw [upd_o (by decide)]; exact h3
        have u6 : upd v 6 0 6 = nI 0 := upd_s
        have hag1 : agV mK4 v (upd v 6 0) := agV.rf.up 6 _ rfl
        generalize upd v 6 0 = v1 at *
        have hgF : agF [1, 2] f (updA f2 2 (upd (f2 2) X (v 6))) := (hag.wk rfl).up 2 _ rfl
        have hold : ∀ ti B, ti < X → TB B ti f → TB B ti (updA f2 2 (upd (f2 2) X (v 6))) := by
          intro ti B hti hB
          obtain ⟨q1, q2, q3, q4⟩ := hB
          refine ⟨q1, q2, ?_, ?_⟩
          · rw [updA_s, upd_o (by omega), hag.at 2 rfl]; exact q3
          · intro j x hj
            have := (List.getElem?_eq_some_iff.mp hj).1
            rw [updA_o (by decide), hlo _ (by omega)]; exact q4 j x hj
        have hTB : TB T X (updA f2 2 (upd (f2 2) X (v 6))) := by
          refine ⟨hT, hT2, ?_, ?_⟩
          · rw [updA_s, upd_s, h6]
          · intro j x hj
            have := (List.getElem?_eq_some_iff.mp hj).1
            rw [updA_o (by decide), hcp j (by omega)]; exact hT3 j x hj
        generalize updA f2 2 (upd (f2 2) X (v 6)) = f3 at *
        rw [ux]
        refine g_V2i dX8_text_73 mv_X8_249 0 rfl rfl rfl (Nat.le_of_ble_eq_true rfl) (Nat.le_of_ble_eq_true rfl) (c_X8_read (d := d) hN hX6 hTB 0) (fun z1_ w1 hq => ?_)
        obtain ⟨v2, t2, rfl, hag2, q1, q2⟩ := hq
        have hag3 : agV mK4 v v2 := hag1.tr (hag2.wk rfl)
        have x3 : v2 3 = nI X := by rw [hag2.at 3 rfl]; exact ux
        have x6 : v2 6 = nI 0 := by rw [hag2.at 6 rfl]; exact u6
        by_cases hre : reOK T
        · have g29 := (q1 hre).1
          have z29 : (v2 29).toInt = 0 := by rw [g29]; decide
          refine g_istore1 dX8_text_76 rfl rfl (g_aload0 dX8_text_77 (g_mget fl_X8_170 mg_29 dX8_text_78 (g_if_eq (tgt := 92) dX8_text_81 (by decide) (fun h81 => g_aload0 dX8_text_92 (g_dup dX8_text_93 rfl (g_mget fl_X8_100 mg_3 dX8_text_94 (g_iconst ki_1 dX8_text_97 (g_iadd dX8_text_98 (g_mput fl_X8_100 fp_7_3 ms_3 rfl rfl rfl dX8_text_99 (g_aload0 dX8_text_102 (g_mget fl_X8_100 mg_3 dX8_text_103 (g_iconst ki_1 dX8_text_106 (g_isub dX8_text_107 (g_iret rfl dX8_text_108 (Nat.le_of_ble_eq_true rfl) (Nat.le_of_ble_eq_true rfl) ?q108_2))))))))))) (fun h81 => g_bipush kb_m100 dX8_text_84 (g_aload0 dX8_text_86 (g_mget fl_X8_174 mg_30 dX8_text_87 (g_isub dX8_text_90 (g_iret rfl dX8_text_91 (Nat.le_of_ble_eq_true rfl) (Nat.le_of_ble_eq_true rfl) ?q91_2))))))))
          case q91_2 => omega
          case q108_2 =>
            refine hQ _ _ ⟨fun q => by omega, fun _ => ⟨_, t2, f3, rfl, hag3.up 3 _ rfl, hgF, by rw [upd_o (by decide)]; exact x6, hold, hTB, fun _ => ⟨?_, ?_⟩, fun q => absurd hre q⟩⟩
            · rw [upd_s, x3, nI_1, nI_pred]
            · rw [upd_s, x3, nI_1]
        · obtain ⟨g29, g30⟩ := q2 hre
          have z29 : (v2 29).toInt = 1 := by rw [g29]; decide
          refine g_istore1 dX8_text_76 rfl rfl (g_aload0 dX8_text_77 (g_mget fl_X8_170 mg_29 dX8_text_78 (g_if_eq (tgt := 92) dX8_text_81 (by decide) (fun h81 => g_aload0 dX8_text_92 (g_dup dX8_text_93 rfl (g_mget fl_X8_100 mg_3 dX8_text_94 (g_iconst ki_1 dX8_text_97 (g_iadd dX8_text_98 (g_mput fl_X8_100 fp_7_3 ms_3 rfl rfl rfl dX8_text_99 (g_aload0 dX8_text_102 (g_mget fl_X8_100 mg_3 dX8_text_103 (g_iconst ki_1 dX8_text_106 (g_isub dX8_text_107 (g_iret rfl dX8_text_108 (Nat.le_of_ble_eq_true rfl) (Nat.le_of_ble_eq_true rfl) ?q108_3))))))))))) (fun h81 => g_bipush kb_m100 dX8_text_84 (g_aload0 dX8_text_86 (g_mget fl_X8_174 mg_30 dX8_text_87 (g_isub dX8_text_90 (g_iret rfl dX8_text_91 (Nat.le_of_ble_eq_true rfl) (Nat.le_of_ble_eq_true rfl) ?q91_3))))))))
          case q108_3 => omega
          case q91_3 =>
            refine hQ _ _ ⟨fun q => by omega, fun _ => ⟨v2, t2, f3, rfl, hag3, hgF, x6, hold, hTB, fun q => absurd q hre, fun _ => ⟨?_, x3⟩⟩⟩
            rw [g30]
    | succ u ih =>
      intro i f2 hi hX6 hag hcp hlo
      have ei := t_nI (n := i) (by omega)
      have e5 : (160 * v 3 + nI i).toInt = ((160 * X + i : Nat) : Int) := by rw [h3, em, nI_add, t_nI (by omega)]
      refine g_iload1 dX8_text_14 (g_aload0 dX8_text_15 (g_mget fl_X8_137 mg_6 dX8_text_16 (g_icmp_ge (tgt := 49) dX8_text_19 (by decide) (fun h19 => ?s49_4) (fun h19 => g_aload0 dX8_text_22 (g_mget fl_X8_13 mg_1 dX8_text_23 (g_sipush ks_160 dX8_text_26 (g_aload0 dX8_text_29 (g_mget fl_X8_100 mg_3 dX8_text_30 (g_imul dX8_text_33 (g_iload1 dX8_text_34 (g_iadd dX8_text_35 (g_aload0 dX8_text_36 (g_mget fl_X8_20 mg_5 dX8_text_37 (g_iload1 dX8_text_40 (g_mia ma_5 dX8_text_41 ?b41_4 (g_mis ma_1 mas_1 dX8_text_42 ?b42_4 (g_iinc1 ki_1 dX8_text_43 rfl rfl (g_goto (tgt := 14) dX8_text_46 (by decide) (?s14_4)))))))))))))))))))
      case s49_4 => omega
      case b41_4 => omega
      case b42_4 => omega
      case s14_4 =>
        rw [e5, ei, Int.toNat_natCast, Int.toNat_natCast, nI_1, hag.at 5 rfl]
        refine ih (i + 1) _ (by omega) hX6 (hag.up 1 _ rfl) ?_ ?_
        · intro j hj
          rw [updA_s]
          by_cases hji : j = i
          · rw [hji, upd_s]
          · rw [upd_o (by omega)]; exact hcp j (by omega)
        · intro m hm
          rw [updA_s, upd_o (by omega)]; exact hlo m hm
  refine g_aload0 dX8_text_0 (g_mget fl_X8_100 mg_3 dX8_text_1 (g_bipush kb_6 dX8_text_4 (g_icmp_ne (tgt := 12) dX8_text_6 (by decide) (fun h6 => g_iconst ki_0 dX8_text_12 (g_istore1 dX8_text_13 rfl rfl (?s14_5))) (fun h6 => g_bipush kb_m4 dX8_text_9 (g_iret rfl dX8_text_11 (Nat.le_of_ble_eq_true rfl) (Nat.le_of_ble_eq_true rfl) ?q11_5)))))
  case s14_5 => exact loop T.length 0 f (by omega) (by omega) agF.rf (fun j hj => absurd hj (Nat.not_lt_zero j)) (fun _ _ => rfl)
  case q11_5 => exact hQ _ _ ⟨fun _ => ⟨rfl, rfl⟩, fun q => by omega⟩
set_option maxRecDepth 20000 in
set_option maxHeartbeats 1000000 in
theorem c_X8_feed (hN : g_N E) (hT : T.length ≤ 160) (h6 : v 6 = nI T.length) (hT3 : Lst T (f 5)) (x : Int32) : g_Ci E mX8_feed (d + 3) [.ref (b 0), .int x] (mW E b v t f) (fun z w => z = (sFeed T x).1 ∧ ∃ v' f', w = mW E b v' t f' ∧ agV [6] v v' ∧ agF [5] f f' ∧ v' 6 = nI (sFeed T x).2.length ∧ Lst (sFeed T x).2 (f' 5)) := by
  have eT := t_nI (n := T.length) (by omega)
  have e6 : (v 6).toInt = T.length := by rw [h6, eT]
  refine g_enterI hN.1 (by decide) [some (.ref (b 0)), some (.int x)] rfl (Nat.le_of_ble_eq_true rfl) (fun A Q hQ => ?_)
  have tcm4 := tc_m4; have tcm2 := tc_m2; have tc1 := tc_1; have tc160 := tc_160
  unfold sFeed at hQ
  refine g_iload1 dX8_feed_0 (g_i2l dX8_feed_1 (g_lconst kl_0 dX8_feed_2 (g_ldc2_w kj_X8_135 dX8_feed_3 (r_X8_in hN mv_X8_106 dX8_feed_6 (Nat.le_of_ble_eq_true rfl) (Nat.le_of_ble_eq_true rfl) rfl (g_if_ne (tgt := 15) dX8_feed_9 (by decide) (fun h9 => g_aload0 dX8_feed_15 (g_mget fl_X8_137 mg_6 dX8_feed_16 (g_sipush ks_160 dX8_feed_19 (g_icmp_ne (tgt := 28) dX8_feed_22 (by decide) (fun h22 => g_aload0 dX8_feed_28 (g_mget fl_X8_20 mg_5 dX8_feed_29 (g_aload0 dX8_feed_32 (g_mget fl_X8_137 mg_6 dX8_feed_33 (g_iload1 dX8_feed_36 (g_mis ma_5 mas_5 dX8_feed_37 ?b37 (g_aload0 dX8_feed_38 (g_dup dX8_feed_39 rfl (g_mget fl_X8_137 mg_6 dX8_feed_40 (g_iconst ki_1 dX8_feed_43 (g_iadd dX8_feed_44 (g_mput fl_X8_137 fp_7_6 ms_6 rfl rfl rfl dX8_feed_45 (g_aload0 dX8_feed_48 (g_mget fl_X8_137 mg_6 dX8_feed_49 (g_iret rfl dX8_feed_52 (Nat.le_of_ble_eq_true rfl) (Nat.le_of_ble_eq_true rfl) ?q52))))))))))))))) (fun h22 => g_bipush kb_m4 dX8_feed_25 (g_iret rfl dX8_feed_27 (Nat.le_of_ble_eq_true rfl) (Nat.le_of_ble_eq_true rfl) ?q27)))))) (fun h9 => g_bipush kb_m2 dX8_feed_12 (g_iret rfl dX8_feed_14 (Nat.le_of_ble_eq_true rfl) (Nat.le_of_ble_eq_true rfl) ?q14)))))))
  all_goals try simp only [g_biz, Int32.toInt_toInt64, tl_m4611686018427387904, tl_m1, tl_0, tl_1, tl_2, tl_3, tl_4, tl_5, tl_9, tl_10, tl_20, tl_40, tl_43, tl_48, tl_57, tl_60, tl_97, tl_99, tl_122, tl_255] at *
  case q14 => rw [if_pos (by omega)] at hQ; exact hQ _ _ ⟨rfl, v, f, rfl, agV.rf, agF.rf, h6, hT3⟩
  all_goals rw [if_neg (by omega)] at hQ
  case q27 => rw [if_pos (by omega)] at hQ; exact hQ _ _ ⟨rfl, v, f, rfl, agV.rf, agF.rf, h6, hT3⟩
  all_goals rw [if_neg (by omega)] at hQ
  case b37 => omega
  case q52 =>
    have hx : x = nI x.toInt.toNat := t_of (by omega)
    refine hQ _ _ ⟨?_, _, _, rfl, agV.rf.up 6 _ rfl, agF.rf.up 5 _ rfl, ?_, ?_⟩
    · rw [upd_s, h6, nI_1]
    · rw [upd_s, h6, nI_1, List.length_append]; rfl
    · rw [updA_s, e6, Int.toNat_natCast]
      conv => arg 2; arg 3; rw [hx]
      exact hT3.push _
set_option maxRecDepth 20000 in
theorem c_X8_force (hN : g_N E) {X : Nat} (hX : X ≤ 6) (h3 : v 3 = nI X) (h4 : v 4 = nI r) (x : Int32) : g_Ci E mX8_force (d + 3) [.ref (b 0), .int x] (mW E b v t f) (fun z w => z = (sForce r X x).1 ∧ ∃ v', w = mW E b v' t f ∧ agV [4] v v' ∧ v' 4 = nI (sForce r X x).2) := by
  have eX := t_nI (n := X) (by omega)
  have e3 : (v 3 - 1).toInt = (X : Int) - 1 := by rw [h3, t_sub (by rw [tc_1]; omega) (by rw [tc_1]; omega), eX, tc_1]
  refine g_enterI hN.1 (by decide) [some (.ref (b 0)), some (.int x), none] rfl (Nat.le_of_ble_eq_true rfl) (fun A Q hQ => ?_)
  have tcm2 := tc_m2; have tc1 := tc_1
  unfold sForce at hQ
  refine g_iload1 dX8_force_0 (g_i2l dX8_force_1 (g_lconst kl_0 dX8_force_2 (g_aload0 dX8_force_3 (g_mget fl_X8_100 mg_3 dX8_force_4 (g_iconst ki_1 dX8_force_7 (g_isub dX8_force_8 (g_i2l dX8_force_9 (r_X8_in hN mv_X8_106 dX8_force_10 (Nat.le_of_ble_eq_true rfl) (Nat.le_of_ble_eq_true rfl) rfl (g_if_ne (tgt := 19) dX8_force_13 (by decide) (fun h13 => g_aload0 dX8_force_19 (g_mget fl_X8_252 mg_4 dX8_force_20 (g_istore2 dX8_force_23 rfl rfl (g_aload0 dX8_force_24 (g_iload1 dX8_force_25 (g_mput fl_X8_252 fp_7_4 ms_4 rfl rfl rfl dX8_force_26 (g_iload2 dX8_force_29 (g_iret rfl dX8_force_30 (Nat.le_of_ble_eq_true rfl) (Nat.le_of_ble_eq_true rfl) ?q30)))))))) (fun h13 => g_bipush kb_m2 dX8_force_16 (g_iret rfl dX8_force_18 (Nat.le_of_ble_eq_true rfl) (Nat.le_of_ble_eq_true rfl) ?q18)))))))))))
  all_goals try simp only [g_biz, Int32.toInt_toInt64, tl_m4611686018427387904, tl_m1, tl_0, tl_1, tl_2, tl_3, tl_4, tl_5, tl_9, tl_10, tl_20, tl_40, tl_43, tl_48, tl_57, tl_60, tl_97, tl_99, tl_122, tl_255] at *
  case q18 => rw [if_neg (by omega)] at hQ; exact hQ _ _ ⟨rfl, v, rfl, agV.rf, h4⟩
  case q30 =>
    rw [if_pos (by omega)] at hQ
    exact hQ _ _ ⟨h4, _, rfl, agV.rf.up 4 _ rfl, by rw [upd_s]; exact t_of (by omega)⟩
set_option maxRecDepth 20000 in
theorem c_X8_at (hN : g_N E) (hD : dgOK D) (hM : MD v f D) (x : Int32) : g_Ci E mX8_at (d + 3) [.ref (b 0), .int x] (mW E b v t f) (fun z w => z = sAt D x ∧ w = mW E b v t f) := by
  obtain ⟨n0, n1, n2⟩ := hM.n1 hD.1
  have hn := hD.1
  have l4 := hD.2.2.2.2.1
  refine g_enterI hN.1 (by decide) [some (.ref (b 0)), some (.int x)] rfl (Nat.le_of_ble_eq_true rfl) (fun A Q hQ => ?_)
  have tcm2 := tc_m2
  unfold sAt at hQ
  refine g_aload0 dX8_at_0 (g_iload1 dX8_at_1 (r_X8_isDog hN mv_X8_119 dX8_at_2 (Nat.le_of_ble_eq_true rfl) (Nat.le_of_ble_eq_true rfl) rfl (g_if_eq (tgt := 17) dX8_at_5 (by decide) (fun h5 => g_bipush kb_m2 dX8_at_17 (g_iret rfl dX8_at_19 (Nat.le_of_ble_eq_true rfl) (Nat.le_of_ble_eq_true rfl) ?q19)) (fun h5 => g_aload0 dX8_at_8 (g_mget fl_X8_35 mg_11 dX8_at_9 (g_iload1 dX8_at_12 (g_mia ma_11 dX8_at_13 ?b13 (g_goto (tgt := 19) dX8_at_14 (by decide) (g_iret rfl dX8_at_19 (Nat.le_of_ble_eq_true rfl) (Nat.le_of_ble_eq_true rfl) ?q19')))))))))
  all_goals try simp only [g_biz, Int32.toInt_toInt64, tl_m4611686018427387904, tl_m1, tl_0, tl_1, tl_2, tl_3, tl_4, tl_5, tl_9, tl_10, tl_20, tl_40, tl_43, tl_48, tl_57, tl_60, tl_97, tl_99, tl_122, tl_255] at *
  case b13 => omega
  case q19 => rw [if_neg (by omega)] at hQ; exact hQ _ _ ⟨rfl, rfl⟩
  case q19' =>
    rw [if_pos (by omega)] at hQ
    exact hQ _ _ ⟨hM.2.2.2.2.2.at (getD_at (by omega)), rfl⟩
set_option maxRecDepth 20000 in
set_option maxHeartbeats 2000000 in
theorem c_X8_cross (hN : g_N E) (hD : dgOK D) (hM : MD v f D) (hL : ML v f L) (p o : Int32) : g_Ci E mX8_cross (d + 3) [.ref (b 0), .int p, .int o] (mW E b v t f) (fun z w => z = (sCross D L p o).1 ∧ ∃ v' f', w = mW E b v' t f' ∧ agV [15] v v' ∧ agF [11, 13, 14] f f' ∧ MD v' f' (sCross D L p o).2.1 ∧ ML v' f' (sCross D L p o).2.2) := by
  obtain ⟨n0, n1, n2⟩ := hM.n1 hD.1
  have hn := hD.1
  have l4 := hD.2.2.2.2.1
  obtain ⟨L1, L2, L3, L4⟩ := id hL
  have e15 : (v 15).toInt = L.length := by rw [L2, t_nI (by omega)]
  refine g_enterI hN.1 (by decide) [some (.ref (b 0)), some (.int p), some (.int o)] rfl (Nat.le_of_ble_eq_true rfl) (fun A Q hQ => ?_)
  have tcm4 := tc_m4; have tcm2 := tc_m2; have tc1 := tc_1; have tc2 := tc_2; have tc40 := tc_40
  unfold sCross at hQ
  refine g_iload1 dX8_cross_0 (g_i2l dX8_cross_1 (g_lconst kl_0 dX8_cross_2 (g_aload0 dX8_cross_3 (g_mget fl_X8_103 mg_12 dX8_cross_4 (g_iconst ki_2 dX8_cross_7 (g_isub dX8_cross_8 (g_i2l dX8_cross_9 (r_X8_in hN mv_X8_106 dX8_cross_10 (Nat.le_of_ble_eq_true rfl) (Nat.le_of_ble_eq_true rfl) rfl (g_if_eq (tgt := 26) dX8_cross_13 (by decide) (fun h13 => g_bipush kb_m2 dX8_cross_26 (g_iret rfl dX8_cross_28 (Nat.le_of_ble_eq_true rfl) (Nat.le_of_ble_eq_true rfl) ?q28)) (fun h13 => g_iload2 dX8_cross_16 (g_i2l dX8_cross_17 (g_lconst kl_0 dX8_cross_18 (g_lconst kl_1 dX8_cross_19 (r_X8_in hN mv_X8_106 dX8_cross_20 (Nat.le_of_ble_eq_true rfl) (Nat.le_of_ble_eq_true rfl) rfl (g_if_ne (tgt := 29) dX8_cross_23 (by decide) (fun h23 => g_aload0 dX8_cross_29 (g_mget fl_X8_116 mg_15 dX8_cross_30 (g_bipush kb_40 dX8_cross_33 (g_icmp_ne (tgt := 41) dX8_cross_35 (by decide) (fun h35 => g_aload0 dX8_cross_41 (g_iload1 dX8_cross_42 (?c43))) (fun h35 => g_bipush kb_m4 dX8_cross_38 (g_iret rfl dX8_cross_40 (Nat.le_of_ble_eq_true rfl) (Nat.le_of_ble_eq_true rfl) ?q40)))))) (fun h23 => g_bipush kb_m2 dX8_cross_26 (g_iret rfl dX8_cross_28 (Nat.le_of_ble_eq_true rfl) (Nat.le_of_ble_eq_true rfl) ?q28')))))))))))))))))
  all_goals try simp only [g_biz, Int32.toInt_toInt64, tl_m4611686018427387904, tl_m1, tl_0, tl_1, tl_2, tl_3, tl_4, tl_5, tl_9, tl_10, tl_20, tl_40, tl_43, tl_48, tl_57, tl_60, tl_97, tl_99, tl_122, tl_255] at *
  case q28 => rw [if_pos (by omega)] at hQ; exact hQ _ _ ⟨rfl, v, f, rfl, agV.rf, agF.rf, hM, hL⟩
  case q28' => rw [if_pos (by omega)] at hQ; exact hQ _ _ ⟨rfl, v, f, rfl, agV.rf, agF.rf, hM, hL⟩
  all_goals rw [if_neg (by omega)] at hQ
  case q40 => rw [if_pos (by omega)] at hQ; exact hQ _ _ ⟨rfl, v, f, rfl, agV.rf, agF.rf, hM, hL⟩
  case c43 =>
    rw [if_neg (by omega)] at hQ
    have hp : p = nI p.toInt.toNat := t_of (by omega)
    have ho : o = nI o.toInt.toNat := t_of (by omega)
    have hsw := c_X8_swap (E := E) (b := b) (v := v) (t := t) (f := f) (d := d + 1) hN (p := p.toInt.toNat) (by omega)
    rw [← hp] at hsw
    refine g_V1v dX8_cross_43 mv_X8_270 0 rfl rfl rfl (Nat.le_of_ble_eq_true rfl) (Nat.le_of_ble_eq_true rfl) (hsw) (fun w1 hq => ?_)
    subst hq
    refine g_aload0 dX8_cross_46 (g_mget fl_X8_38 mg_13 dX8_cross_47 (g_aload0 dX8_cross_50 (g_mget fl_X8_116 mg_15 dX8_cross_51 (g_iload1 dX8_cross_54 (g_mis ma_13 mas_13 dX8_cross_55 ?b55_2 (g_aload0 dX8_cross_56 (g_mget fl_X8_41 mg_14 dX8_cross_57 (g_aload0 dX8_cross_60 (g_mget fl_X8_116 mg_15 dX8_cross_61 (g_iload2 dX8_cross_64 (g_mis ma_14 mas_14 dX8_cross_65 ?b65_2 (g_aload0 dX8_cross_66 (g_dup dX8_cross_67 rfl (g_mget fl_X8_116 mg_15 dX8_cross_68 (g_iconst ki_1 dX8_cross_71 (g_iadd dX8_cross_72 (g_mput fl_X8_116 fp_7_15 ms_15 rfl rfl rfl dX8_cross_73 (g_aload0 dX8_cross_76 (g_mget fl_X8_116 mg_15 dX8_cross_77 (g_iret rfl dX8_cross_80 (Nat.le_of_ble_eq_true rfl) (Nat.le_of_ble_eq_true rfl) ?q80_2))))))))))))))))))))
    case b55_2 => omega
    case b65_2 => omega
    case q80_2 =>
      refine hQ _ _ ⟨?_, _, _, rfl, agV.rf.up 15 _ rfl, ((agF.rf.up 11 _ rfl).up 13 _ rfl).up 14 _ rfl, ?_, ?_⟩
      · rw [upd_s, L2, nI_1]
      · refine ⟨by rw [upd_o (by decide)]; exact hM.1, ?_, ?_, ?_, ?_, ?_⟩
        · rw [updA_o (by decide), updA_o (by decide), updA_o (by decide)]; exact hM.2.1
        · rw [updA_o (by decide), updA_o (by decide), updA_o (by decide)]; exact hM.2.2.1
        · rw [updA_o (by decide), updA_o (by decide), updA_o (by decide)]; exact hM.2.2.2.1
        · rw [updA_o (by decide), updA_o (by decide), updA_o (by decide)]; exact hM.2.2.2.2.1
        · rw [updA_o (by decide), updA_o (by decide), updA_s]; exact hM.2.2.2.2.2.swG (by omega)
      · refine ⟨by rw [List.length_append]; show L.length + 1 ≤ 40; omega, by rw [upd_s, L2, nI_1, List.length_append]; rfl, ?_, ?_⟩
        · rw [updA_o (by decide), updA_s, updA_o (by decide), e15, Int.toNat_natCast, List.map_append]
          conv => arg 2; arg 3; rw [hp]
          have := L3.push p.toInt.toNat
          rw [List.length_map] at this
          exact this
        · rw [updA_s, updA_o (by decide), updA_o (by decide), e15, Int.toNat_natCast, List.map_append]
          conv => arg 2; arg 3; rw [ho]
          have := L4.push o.toInt.toNat
          rw [List.length_map] at this
          exact this
set_option maxRecDepth 20000 in
set_option maxHeartbeats 2000000 in
theorem c_X8_undo (hN : g_N E) (hD : dgOK D) (hM : MD v f D) (hL : ML v f L) (hv : ∀ c ∈ L, c.1 + 1 < D.1.length) : g_Ci E mX8_undo (d + 3) [.ref (b 0)] (mW E b v t f) (fun z w => z = (sUndo D L).1 ∧ ∃ v' f', w = mW E b v' t f' ∧ agV [15] v v' ∧ agF [11] f f' ∧ MD v' f' (sUndo D L).2.1 ∧ ML v' f' (sUndo D L).2.2) := by
  have hn := hD.1
  have l4 := hD.2.2.2.2.1
  obtain ⟨L1, L2, L3, L4⟩ := id hL
  have e15 : (v 15).toInt = L.length := by rw [L2, t_nI (by omega)]
  refine g_enterI hN.1 (by decide) [some (.ref (b 0))] rfl (Nat.le_of_ble_eq_true rfl) (fun A Q hQ => ?_)
  have tcm3 := tc_m3; have tc1 := tc_1
  unfold sUndo at hQ
  cases hl : L.getLast? with
  | none =>
    rw [hl] at hQ
    have : L = [] := List.getLast?_eq_none_iff.mp hl
    have : L.length = 0 := by rw [this]; rfl
    refine g_aload0 dX8_undo_0 (g_mget fl_X8_116 mg_15 dX8_undo_1 (g_if_ne (tgt := 10) dX8_undo_4 (by decide) (fun h4 => ?s10) (fun h4 => g_bipush kb_m3 dX8_undo_7 (g_iret rfl dX8_undo_9 (Nat.le_of_ble_eq_true rfl) (Nat.le_of_ble_eq_true rfl) ?q9))))
    case s10 => omega
    case q9 => exact hQ _ _ ⟨rfl, v, f, rfl, agV.rf, agF.rf, hM, hL⟩
  | some c =>
    rw [hl] at hQ
    have hle : L ≠ [] := fun q => by rw [q] at hl; cases hl
    have hpos : 0 < L.length := List.length_pos_iff.mpr hle
    have hlast : L[L.length - 1]? = some c := by rw [← List.getLast?_eq_getElem?]; exact hl
    have hc := hv c (List.mem_of_getElem? hlast)
    have e1 : v 15 - 1 = nI (L.length - 1) := by
      rw [L2, show L.length = (L.length - 1) + 1 by omega, nI_pred, show L.length - 1 + 1 - 1 = L.length - 1 by omega]
    have e2 := t_nI (n := L.length - 1) (by omega)
    have hpl : f 13 (L.length - 1) = nI c.1 := L3.at (by rw [List.getElem?_map, hlast]; rfl)
    refine g_aload0 dX8_undo_0 (g_mget fl_X8_116 mg_15 dX8_undo_1 (g_if_ne (tgt := 10) dX8_undo_4 (by decide) (fun h4 => g_aload0 dX8_undo_10 (g_dup dX8_undo_11 rfl (g_mget fl_X8_116 mg_15 dX8_undo_12 (g_iconst ki_1 dX8_undo_15 (g_isub dX8_undo_16 (g_mput fl_X8_116 fp_7_15 ms_15 rfl rfl rfl dX8_undo_17 (g_aload0 dX8_undo_20 (g_aload0 dX8_undo_21 (g_mget fl_X8_38 mg_13 dX8_undo_22 (g_aload0 dX8_undo_25 (g_mget fl_X8_116 mg_15 dX8_undo_26 (g_mia ma_13 dX8_undo_29 ?b29_2 (?c30_2))))))))))))) (fun h4 => g_bipush kb_m3 dX8_undo_7 (g_iret rfl dX8_undo_9 (Nat.le_of_ble_eq_true rfl) (Nat.le_of_ble_eq_true rfl) ?q9_2))))
    case q9_2 => omega
    case b29_2 => rw [upd_s, e1, e2]; omega
    case c30_2 =>
      rw [upd_s, e1, e2, Int.toNat_natCast, hpl]
      refine g_V1v dX8_undo_30 mv_X8_270 0 rfl rfl rfl (Nat.le_of_ble_eq_true rfl) (Nat.le_of_ble_eq_true rfl) (c_X8_swap (d := d + 1) hN (by omega)) (fun w1 hq => ?_)
      subst hq
      refine g_aload0 dX8_undo_33 (g_mget fl_X8_116 mg_15 dX8_undo_34 (g_iret rfl dX8_undo_37 (Nat.le_of_ble_eq_true rfl) (Nat.le_of_ble_eq_true rfl) ?q37_3))
      refine hQ _ _ ⟨by rw [upd_s], _, _, rfl, agV.rf.up 15 _ rfl, agF.rf.up 11 _ rfl, ?_, ?_⟩
      · refine ⟨by rw [upd_o (by decide)]; exact hM.1, ?_, ?_, ?_, ?_, ?_⟩
        · rw [updA_o (by decide)]; exact hM.2.1
        · rw [updA_o (by decide)]; exact hM.2.2.1
        · rw [updA_o (by decide)]; exact hM.2.2.2.1
        · rw [updA_o (by decide)]; exact hM.2.2.2.2.1
        · rw [updA_s]; exact hM.2.2.2.2.2.swG (by omega)
      · refine ⟨by rw [List.length_dropLast]; omega, by rw [upd_s, List.length_dropLast], ?_, ?_⟩
        · rw [updA_o (by decide)]
          intro i x hx
          rw [List.map_dropLast, List.getElem?_dropLast] at hx
          split at hx
          · exact L3.at hx
          · cases hx
        · rw [updA_o (by decide)]
          intro i x hx
          rw [List.map_dropLast, List.getElem?_dropLast] at hx
          split at hx
          · exact L4.at hx
          · cases hx
set_option maxRecDepth 20000 in
set_option maxHeartbeats 2000000 in
theorem c_X8_taken (hN : g_N E) (hD : dgOK D) (hM : MD v f D) (x k : Int32) : g_Ci E mX8_taken (d + 3) [.ref (b 0), .int x, .int k] (mW E b v t f) (fun z w => z = sTaken D x k ∧ w = mW E b v t f) := by
  obtain ⟨hn, l1, l2, l3, l4, b1, b2, b3, b4, b5, hnd⟩ := id hD
  obtain ⟨n0, n1, n2⟩ := hM.n1 hn
  refine g_enterI hN.1 (by decide) [some (.ref (b 0)), some (.int x), some (.int k), none] rfl (Nat.le_of_ble_eq_true rfl) (fun A Q hQ => ?_)
  have tcm13 := tc_m13; have tcm11 := tc_m11; have tcm2 := tc_m2; have tcm1 := tc_m1
  unfold sTaken at hQ
  refine g_iload2 dX8_taken_0 (g_i2l dX8_taken_1 (g_lconst kl_0 dX8_taken_2 (g_ldc2_w kj_X8_110 dX8_taken_3 (r_X8_in hN mv_X8_106 dX8_taken_6 (Nat.le_of_ble_eq_true rfl) (Nat.le_of_ble_eq_true rfl) rfl (g_if_ne (tgt := 15) dX8_taken_9 (by decide) (fun h9 => g_aload0 dX8_taken_15 (g_iload1 dX8_taken_16 (r_X8_isDog hN mv_X8_119 dX8_taken_17 (Nat.le_of_ble_eq_true rfl) (Nat.le_of_ble_eq_true rfl) rfl (g_if_ne (tgt := 26) dX8_taken_20 (by decide) (fun h20 => g_aload0 dX8_taken_26 (g_mget fl_X8_23 mg_7 dX8_taken_27 (g_iload1 dX8_taken_30 (g_mia ma_7 dX8_taken_31 ?b31 (g_istore3 dX8_taken_32 rfl rfl (?s33)))))) (fun h20 => g_bipush kb_m11 dX8_taken_23 (g_iret rfl dX8_taken_25 (Nat.le_of_ble_eq_true rfl) (Nat.le_of_ble_eq_true rfl) ?q25)))))) (fun h9 => g_bipush kb_m2 dX8_taken_12 (g_iret rfl dX8_taken_14 (Nat.le_of_ble_eq_true rfl) (Nat.le_of_ble_eq_true rfl) ?q14)))))))
  all_goals try simp only [g_biz, Int32.toInt_toInt64, tl_m4611686018427387904, tl_m1, tl_0, tl_1, tl_2, tl_3, tl_4, tl_5, tl_9, tl_10, tl_20, tl_40, tl_43, tl_48, tl_57, tl_60, tl_97, tl_99, tl_122, tl_255] at *
  case q14 => rw [if_pos (by omega)] at hQ; exact hQ _ _ ⟨rfl, rfl⟩
  all_goals rw [if_neg (by omega)] at hQ
  case q25 => rw [if_pos (by omega)] at hQ; exact hQ _ _ ⟨rfl, rfl⟩
  case b31 => omega
  case s33 =>
    rw [if_neg (by omega)] at hQ
    have gk := getD_at (l := D.1) (i := x.toInt.toNat) (by omega)
    have gn := getD_at (l := D.2.2.1) (i := x.toInt.toNat) (by omega)
    have k5 := b1 _ (List.mem_of_getElem? gk)
    rw [hM.2.1.at gk]
    generalize D.1.getD x.toInt.toNat 0 = kd at *
    have hk : k = nI k.toInt.toNat := t_of (by omega)
    generalize hk2 : k.toInt.toNat = kk at *
    have ekk := t_nI (n := kk) (by omega)
    have kk5 : kk ≤ 5 := by omega
    have yes : ∀ y : Int32, y.toInt = k.toInt → undB kd kk = true → G E mX8_taken (d + 3) 0 0 A Q 0 0 51 [some (.ref (b 0)), some (.int x), some (.int k), some (.int y)] [] (mW E b v t f) := by
      intro y hy hu
      rw [if_pos hu] at hQ
      refine g_iload3 dX8_taken_51 (g_iload2 dX8_taken_52 (g_icmp_ne (tgt := 65) dX8_taken_53 (by decide) (fun h53 => g_bipush kb_m13 dX8_taken_65 (g_iret rfl dX8_taken_67 (Nat.le_of_ble_eq_true rfl) (Nat.le_of_ble_eq_true rfl) ?q67_2)) (fun h53 => g_aload0 dX8_taken_56 (g_mget fl_X8_29 mg_9 dX8_taken_57 (g_iload1 dX8_taken_60 (g_mia ma_9 dX8_taken_61 ?b61_2 (g_goto (tgt := 67) dX8_taken_62 (by decide) (g_iret rfl dX8_taken_67 (Nat.le_of_ble_eq_true rfl) (Nat.le_of_ble_eq_true rfl) ?q67_2'))))))))
      case b61_2 => omega
      case q67_2 => omega
      case q67_2' => exact hQ _ _ ⟨hM.2.2.2.1.at gn, rfl⟩
    have no : ∀ y : Int32, ¬ y.toInt = k.toInt → undB kd kk = false → G E mX8_taken (d + 3) 0 0 A Q 0 0 51 [some (.ref (b 0)), some (.int x), some (.int k), some (.int y)] [] (mW E b v t f) := by
      intro y hy hu
      rw [if_neg (by rw [hu]; decide)] at hQ
      refine g_iload3 dX8_taken_51 (g_iload2 dX8_taken_52 (g_icmp_ne (tgt := 65) dX8_taken_53 (by decide) (fun h53 => g_bipush kb_m13 dX8_taken_65 (g_iret rfl dX8_taken_67 (Nat.le_of_ble_eq_true rfl) (Nat.le_of_ble_eq_true rfl) ?q67_3)) (fun h53 => g_aload0 dX8_taken_56 (g_mget fl_X8_29 mg_9 dX8_taken_57 (g_iload1 dX8_taken_60 (g_mia ma_9 dX8_taken_61 ?b61_3 (g_goto (tgt := 67) dX8_taken_62 (by decide) (g_iret rfl dX8_taken_67 (Nat.le_of_ble_eq_true rfl) (Nat.le_of_ble_eq_true rfl) ?q67_3'))))))))
      case b61_3 => omega
      case q67_3 => exact hQ _ _ ⟨rfl, rfl⟩
      case q67_3' => omega
    have hm : undB kd kk = false → G E mX8_taken (d + 3) 0 0 A Q 0 0 33 [some (.ref (b 0)), some (.int x), some (.int k), some (.int (-1))] [] (mW E b v t f) := by
      intro hu
      refine g_iload3 dX8_taken_33 (g_iconst ki_m1 dX8_taken_34 (g_icmp_eq (tgt := 51) dX8_taken_35 (by decide) (fun h35 => ?s51_4) (fun h35 => g_iload3 dX8_taken_38 (g_iload2 dX8_taken_39 (g_icmp_eq (tgt := 51) dX8_taken_40 (by decide) (fun h40 => ?s51_4') (fun h40 => g_iload3 dX8_taken_43 (r_X8_over hN mv_X8_363 dX8_taken_44 (Nat.le_of_ble_eq_true rfl) (Nat.le_of_ble_eq_true rfl) rfl (g_istore3 dX8_taken_47 rfl rfl (g_goto (tgt := 33) dX8_taken_48 (by decide) (?s33_4))))))))))
      case s51_4 => exact no _ (by omega) hu
      all_goals omega
    have stp : ∀ (y : Nat) (z : Int32), y ≤ 5 → undB kd kk = undB y kk → (if (nI y).toInt = 0 then (-1 : Int32) else if (nI y).toInt = 1 ∨ (nI y).toInt = 2 then 0 else if (nI y).toInt = 4 then 2 else 1) = z → (¬ kk = y → G E mX8_taken (d + 3) 0 0 A Q 0 0 33 [some (.ref (b 0)), some (.int x), some (.int k), some (.int z)] [] (mW E b v t f)) → G E mX8_taken (d + 3) 0 0 A Q 0 0 33 [some (.ref (b 0)), some (.int x), some (.int k), some (.int (nI y))] [] (mW E b v t f) := by
      intro y z hy hu hz hn
      have ey := t_nI (n := y) (by omega)
      refine g_iload3 dX8_taken_33 (g_iconst ki_m1 dX8_taken_34 (g_icmp_eq (tgt := 51) dX8_taken_35 (by decide) (fun h35 => ?s51_5) (fun h35 => g_iload3 dX8_taken_38 (g_iload2 dX8_taken_39 (g_icmp_eq (tgt := 51) dX8_taken_40 (by decide) (fun h40 => ?s51_5') (fun h40 => g_iload3 dX8_taken_43 (r_X8_over hN mv_X8_363 dX8_taken_44 (Nat.le_of_ble_eq_true rfl) (Nat.le_of_ble_eq_true rfl) rfl (g_istore3 dX8_taken_47 rfl rfl (g_goto (tgt := 33) dX8_taken_48 (by decide) (?s33_5))))))))))
      case s51_5 => omega
      case s51_5' =>
        have : kk = y := by omega
        exact yes _ (by omega) (by rw [hu, this]; unfold undB; rw [beq_self_eq_true]; rfl)
      case s33_5 =>
        rw [hz]
        exact hn (by omega)
    have h0 : undB kd kk = undB 0 kk → G E mX8_taken (d + 3) 0 0 A Q 0 0 33 [some (.ref (b 0)), some (.int x), some (.int k), some (.int (nI 0))] [] (mW E b v t f) := fun hu => stp 0 (-1) (by omega) hu (by decide) (fun hne => hm (by
      rw [hu]
      have : ∀ kk, kk ≤ 5 → kk ≠ 0 → undB 0 kk = false := by decide
      exact this kk kk5 hne))
    have h1 : undB kd kk = undB 1 kk → G E mX8_taken (d + 3) 0 0 A Q 0 0 33 [some (.ref (b 0)), some (.int x), some (.int k), some (.int (nI 1))] [] (mW E b v t f) := fun hu => stp 1 (nI 0) (by omega) hu (by decide) (fun hne => h0 (by
      rw [hu]
      have : ∀ kk, kk ≤ 5 → kk ≠ 1 → undB 1 kk = undB 0 kk := by decide
      exact this kk kk5 hne))
    have h2 : undB kd kk = undB 2 kk → G E mX8_taken (d + 3) 0 0 A Q 0 0 33 [some (.ref (b 0)), some (.int x), some (.int k), some (.int (nI 2))] [] (mW E b v t f) := fun hu => stp 2 (nI 0) (by omega) hu (by decide) (fun hne => h0 (by
      rw [hu]
      have : ∀ kk, kk ≤ 5 → kk ≠ 2 → undB 2 kk = undB 0 kk := by decide
      exact this kk kk5 hne))
    rcases (show kd = 0 ∨ kd = 1 ∨ kd = 2 ∨ kd = 3 ∨ kd = 4 ∨ kd = 5 by omega) with h | h | h | h | h | h
    · rw [h] at h0 ⊢; exact h0 rfl
    · rw [h] at h1 ⊢; exact h1 rfl
    · rw [h] at h2 ⊢; exact h2 rfl
    · rw [h] at stp h1 ⊢
      refine stp 3 (nI 1) (by omega) rfl (by decide) (fun hne => h1 ?_)
      have : ∀ kk, kk ≤ 5 → kk ≠ 3 → undB 3 kk = undB 1 kk := by decide
      exact this kk kk5 hne
    · rw [h] at stp h2 ⊢
      refine stp 4 (nI 2) (by omega) rfl (by decide) (fun hne => h2 ?_)
      have : ∀ kk, kk ≤ 5 → kk ≠ 4 → undB 4 kk = undB 2 kk := by decide
      exact this kk kk5 hne
    · rw [h] at stp h1 ⊢
      refine stp 5 (nI 1) (by omega) rfl (by decide) (fun hne => h1 ?_)
      have : ∀ kk, kk ≤ 5 → kk ≠ 5 → undB 5 kk = undB 1 kk := by decide
      exact this kk kk5 hne
end S84
