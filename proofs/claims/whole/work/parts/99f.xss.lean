theorem sCross_ok {D : Dg} {L : List Cr} (hD : dgOK D) (hL : L.length ≤ 40) (p o : Int32) : dgOK (sCross D L p o).2.1 ∧ (sCross D L p o).2.2.length ≤ 40 := by
  unfold sCross
  split
  · exact ⟨hD, hL⟩
  · split
    · exact ⟨hD, hL⟩
    · refine ⟨dgOK_perm hD (swapL_perm _ _), ?_⟩
      dsimp only
      rw [List.length_append]
      show L.length + 1 ≤ 40
      omega
theorem sCross_z {D : Dg} {L : List Cr} (hL : L.length ≤ 40) (p o : Int32) : 0 < (sCross D L p o).1.toInt ↔ 0 ≤ (sCross D L p o).1.toInt := by
  unfold sCross
  split
  · show 0 < (-2 : Int32).toInt ↔ 0 ≤ (-2 : Int32).toInt
    decide
  · split
    · show 0 < (-4 : Int32).toInt ↔ 0 ≤ (-4 : Int32).toInt
      decide
    · dsimp only
      rw [t_nI (by omega)]
      omega
section S99f
variable {E : GE} {d : Nat} {b : Nat → Nat} {v : Nat → Int32} {t : Int64} {f : Nat → Nat → Int32} {D : Dg} {L : List Cr} {i : Nat} {s : Int32 × List Int32}
set_option maxRecDepth 20000 in
set_option maxHeartbeats 2000000 in
theorem c_X8_crossings (hN : g_N E) (hD : dgOK D) (hM : MD v f D) (hL : ML v f L) (hS : MSh f i s) (x so at_ m : Int32) (hx : shN x i) : g_Ci E mX8_crossings (d + 4) [.ref (b 0), .int x, .int so, .int at_, .int m] (mW E b v t f) (fun z w => z = (sXs D L s x so at_ m).1 ∧ ∃ v' f', w = mW E b v' t f' ∧ agV [15] v v' ∧ agF [11, 13, 14] f f' ∧ MD v' f' (sXs D L s x so at_ m).2.1 ∧ ML v' f' (sXs D L s x so at_ m).2.2) := by
  have hS0 := hS
  obtain ⟨hi4, hs40, hso, hm1, hm2⟩ := hS
  refine g_enterI hN.1 (by decide) [some (.ref (b 0)), some (.int x), some (.int so), some (.int at_), some (.int m), none, none, none] rfl (Nat.le_of_ble_eq_true rfl) (fun A Q hQ => ?_)
  have tcm13 := tc_m13; have tcm12 := tc_m12; have tcm11 := tc_m11; have tcm2 := tc_m2; have tc0 := tc_0; have tc1 := tc_1; have tc2 := tc_2; have tc40 := tc_40
  have tc40 := tc_40
  unfold sXs at hQ
  have stay : ∀ z : Int32, (sXs D L s x so at_ m) = (z, D, L) → Q (some (.int z)) (mW E b v t f) := by
    intro z hz
    unfold sXs at hz
    rw [hz] at hQ
    exact hQ _ _ ⟨rfl, v, f, rfl, agV.rf, agF.rf, hM, hL⟩
  refine g_iload1 dX8_crossings_0 (r_X8_isSheet hN mv_X8_300 dX8_crossings_1 (Nat.le_of_ble_eq_true rfl) (Nat.le_of_ble_eq_true rfl) rfl (g_if_eq (tgt := 32) dX8_crossings_4 (by decide) (fun h4 => g_bipush kb_m2 dX8_crossings_32 (g_iret rfl dX8_crossings_34 (Nat.le_of_ble_eq_true rfl) (Nat.le_of_ble_eq_true rfl) ?q34)) (fun h4 => g_iload2 dX8_crossings_7 (g_i2l dX8_crossings_8 (g_lconst kl_0 dX8_crossings_9 (g_ldc2_w kj_X8_123 dX8_crossings_10 (r_X8_in hN mv_X8_106 dX8_crossings_13 (Nat.le_of_ble_eq_true rfl) (Nat.le_of_ble_eq_true rfl) rfl (g_if_eq (tgt := 32) dX8_crossings_16 (by decide) (fun h16 => g_bipush kb_m2 dX8_crossings_32 (g_iret rfl dX8_crossings_34 (Nat.le_of_ble_eq_true rfl) (Nat.le_of_ble_eq_true rfl) ?q34')) (fun h16 => g_iload4 dX8_crossings_19 (g_i2l dX8_crossings_21 (g_lconst kl_0 dX8_crossings_22 (g_ldc2_w kj_X8_343 dX8_crossings_23 (r_X8_in hN mv_X8_106 dX8_crossings_26 (Nat.le_of_ble_eq_true rfl) (Nat.le_of_ble_eq_true rfl) rfl (g_if_ne (tgt := 35) dX8_crossings_29 (by decide) (fun h29 => ?s35) (fun h29 => g_bipush kb_m2 dX8_crossings_32 (g_iret rfl dX8_crossings_34 (Nat.le_of_ble_eq_true rfl) (Nat.le_of_ble_eq_true rfl) ?q34''))))))))))))))))
  all_goals try simp only [g_biz, Int32.toInt_toInt64, tl_m4611686018427387904, tl_m1, tl_0, tl_1, tl_2, tl_3, tl_4, tl_5, tl_9, tl_10, tl_20, tl_40, tl_43, tl_48, tl_57, tl_60, tl_97, tl_99, tl_122, tl_255] at *
  case q34 => exact stay _ (by unfold sXs; rw [if_pos (by omega)])
  case q34' => exact stay _ (by unfold sXs; rw [if_pos (by omega)])
  case q34'' => exact stay _ (by unfold sXs; rw [if_pos (by omega)])
  case s35 =>
    have h1 : (0 ≤ x.toInt ∧ x.toInt ≤ 3) ∧ (0 ≤ so.toInt ∧ so.toInt ≤ 2) ∧ (0 ≤ m.toInt ∧ m.toInt ≤ 20) := by omega
    have hxi := hx h1.1
    have ex := t_of h1.1.1
    rw [hxi] at ex
    have tx := t_nI (n := i) (by omega)
    by_cases hms : s.1.toInt = -1
    · have e52 : (f 52 i).toInt = 0 := by rw [hm1 hms]; decide
      have hq := stay (-11) (by unfold sXs; rw [if_neg (fun q => q h1), if_pos hms])
      clear stay
      subst ex
      refine g_aload0 dX8_crossings_35 (g_mget fl_X8_83 mg_52 dX8_crossings_36 (g_iload1 dX8_crossings_39 (g_mba ma_52 dX8_crossings_40 ?b40_2 (g_if_eq (tgt := 57) dX8_crossings_41 (by decide) (fun h41 => g_aload0 dX8_crossings_57 (g_mget fl_X8_83 mg_52 dX8_crossings_58 (g_iload1 dX8_crossings_61 (g_mba ma_52 dX8_crossings_62 ?b62_2 (g_if_ne (tgt := 69) dX8_crossings_63 (by decide) (fun h63 => ?s69_2) (fun h63 => g_bipush kb_m11 dX8_crossings_66 (g_iret rfl dX8_crossings_68 (Nat.le_of_ble_eq_true rfl) (Nat.le_of_ble_eq_true rfl) ?q68_2))))))) (fun h41 => ?s44_2)))))
      all_goals try rw [tx, Int.toNat_natCast] at h41
      all_goals try rw [tx, Int.toNat_natCast] at h63
      case b40_2 => show _ ∧ _ < (4 : Int); omega
      case b62_2 => show _ ∧ _ < (4 : Int); omega
      case s44_2 => omega
      case s69_2 => omega
      case q68_2 => exact hq
    · obtain ⟨h52, h53, h54, h55⟩ := hm2 hms
      have e52 : (f 52 i).toInt = 1 := by rw [h52]; decide
      have e54 : (f 54 i).toInt = s.2.length := by rw [h54, t_nI (by omega)]
      have q13 : ¬ s.1.toInt = so.toInt → Q (some (.int (-13))) (mW E b v t f) := fun h => stay _ (by unfold sXs; rw [if_neg (fun q => q h1), if_neg hms, if_pos h])
      clear stay
      rw [if_neg (fun q => q h1), if_neg hms] at hQ
      have hmm : m = nI m.toInt.toNat := t_of (by omega)
      generalize hmn : m.toInt.toNat = mn at *
      have tm := t_nI (n := mn) (by omega)
      have emm : m.toInt = mn := by omega
      have loop : ∀ u k (c : Int32) D2 L2 v2 f2 l7, s.1.toInt = so.toInt → k + u = mn → agV [15] v v2 → agF [11, 13, 14] f f2 → MD v2 f2 D2 → ML v2 f2 L2 → dgOK D2 → (0 < k → 0 ≤ at_.toInt ∧ at_.toInt + 2 * k ≤ s.2.length) → xsF s.2 at_ mn 0 0 D L = xsF s.2 at_ u k c D2 L2 → G E mX8_crossings (d + 4) 0 0 A Q 0 0 75 [some (.ref (b 0)), some (.int (nI i)), some (.int so), some (.int at_), some (.int m), some (.int c), some (.int (nI k)), l7] [] (mW E b v2 t f2) := by
        intro u
        induction u with
        | zero =>
          intro k c D2 L2 v2 f2 l7 hst hk g1 g2 g3 g4 g5 g6 g7
          have ek := t_nI (n := k) (by omega)
          rw [if_neg (fun q => q hst), g7] at hQ
          refine g_iload6 dX8_crossings_75 (g_iload4 dX8_crossings_77 (g_icmp_ge (tgt := 158) dX8_crossings_79 (by decide) (fun h79 => g_iload5 dX8_crossings_158 (g_iret rfl dX8_crossings_160 (Nat.le_of_ble_eq_true rfl) (Nat.le_of_ble_eq_true rfl) ?q160_3)) (fun h79 => ?s82_3)))
          case s82_3 => omega
          case q160_3 => exact hQ _ _ ⟨rfl, v2, f2, rfl, g1, g2, g3, g4⟩
        | succ u ih =>
          intro k c D2 L2 v2 f2 l7 hst hk g1 g2 g3 g4 g5 g6 g7
          have ek := t_nI (n := k) (by omega)
          have e54' : (f2 54 i).toInt = s.2.length := by rw [g2.at 54 rfl]; exact e54
          have e2k : (2 * nI k : Int32) = nI (2 * k) := by rw [← pk_mul]; rfl
          have et2k := t_nI (n := 2 * k) (by omega)
          have esz : (f2 54 i - 2 * nI k - 2).toInt = (s.2.length : Int) - 2 * k - 2 := by
            have e1 : (f2 54 i - 2 * nI k).toInt = (s.2.length : Int) - 2 * k := by rw [e2k, t_sub (by omega) (by omega)]; omega
            rw [t_sub (by rw [e1, tc_2]; omega) (by rw [e1, tc_2]; omega), e1, tc_2]
          have hf1 := t_lo at_
          have hf2 := t_hi at_
          rw [xsF] at g7
          have bad : ¬ (0 ≤ at_.toInt ∧ at_.toInt ≤ (s.2.length : Int) - 2 * k - 2) → Q (some (.int (-12))) (mW E b v2 t f2) := by
            intro h
            have hno : ¬ ((0 ≤ (at_ + 2 * nI k).toInt ∧ (at_ + 2 * nI k).toInt < s.2.length) ∧ (0 ≤ (at_ + 2 * nI k + 1).toInt ∧ (at_ + 2 * nI k + 1).toInt < s.2.length)) := by
              by_cases hk0 : k = 0
              · subst hk0
                have e0 : at_ + 2 * nI 0 = at_ := by rw [e2k]; exact Int32.add_zero at_
                rw [e0]
                intro q
                have : (at_ + 1).toInt = at_.toInt + 1 := by rw [t_add (by rw [tc_1]; omega) (by rw [tc_1]; omega), tc_1]
                omega
              · have hg := g6 (by omega)
                have e1 : (at_ + 2 * nI k).toInt = at_.toInt + 2 * k := by rw [e2k, t_add (by omega) (by omega)]; omega
                have e2 : (at_ + 2 * nI k + 1).toInt = at_.toInt + 2 * k + 1 := by rw [t_add (by rw [tc_1]; omega) (by rw [tc_1]; omega), e1, tc_1]
                omega
            rw [if_neg hno] at g7
            rw [if_neg (fun q => q hst), g7] at hQ
            exact hQ _ _ ⟨rfl, v2, f2, rfl, g1, g2, g3, g4⟩
          by_cases hok : 0 ≤ at_.toInt ∧ at_.toInt ≤ (s.2.length : Int) - 2 * k - 2
          · have hat : at_ = nI at_.toInt.toNat := t_of hok.1
            generalize hfa : at_.toInt.toNat = fa at *
            have hfaI : at_.toInt = fa := by omega
            have e1 : (at_ + 2 * nI k).toInt = ((fa + 2 * k : Nat) : Int) := by rw [e2k, t_add (by omega) (by omega)]; omega
            have e2 : (at_ + 2 * nI k + 1).toInt = ((fa + 2 * k + 1 : Nat) : Int) := by rw [t_add (by rw [tc_1]; omega) (by rw [tc_1]; omega), e1, tc_1]; omega
            rw [if_pos (by omega), e1, e2, Int.toNat_natCast, Int.toNat_natCast] at g7
            have v1 := h55 (fa + 2 * k) _ (getD_ai (by omega))
            have v2' := h55 (fa + 2 * k + 1) _ (getD_ai (by omega))
            rw [← g2.at 55 rfl] at v1 v2'
            have eq0 : 40 * nI i + at_ + 2 * nI k = nI (40 * i + (fa + 2 * k)) := by
              have : (40 : Int32) * nI i = nI (40 * i) := by rw [← pk_mul]; rfl
              rw [this, hat, e2k, nI_add, nI_add, Nat.add_assoc]
            have eq1 := t_nI (n := 40 * i + (fa + 2 * k)) (by omega)
            have eq2 := t_nI (n := 40 * i + (fa + 2 * k + 1)) (by omega)
            have hz := sCross_z (D := D2) (L := L2) g4.1 (s.2.getD (fa + 2 * k) 0) (s.2.getD (fa + 2 * k + 1) 0)
            obtain ⟨ok1, ok2⟩ := sCross_ok g5 g4.1 (s.2.getD (fa + 2 * k) 0) (s.2.getD (fa + 2 * k + 1) 0)
            refine g_iload6 dX8_crossings_75 (g_iload4 dX8_crossings_77 (g_icmp_ge (tgt := 158) dX8_crossings_79 (by decide) (fun h79 => ?s158_4) (fun h79 => g_iload3 dX8_crossings_82 (g_if_lt (tgt := 103) dX8_crossings_83 (by decide) (fun h83 => ?s103_4) (fun h83 => g_iload3 dX8_crossings_86 (g_aload0 dX8_crossings_87 (g_mget fl_X8_90 mg_54 dX8_crossings_88 (g_iload1 dX8_crossings_91 (g_mia ma_54 dX8_crossings_92 ?b92_4 (g_iconst ki_2 dX8_crossings_93 (g_iload6 dX8_crossings_94 (g_imul dX8_crossings_96 (g_isub dX8_crossings_97 (g_iconst ki_2 dX8_crossings_98 (g_isub dX8_crossings_99 (g_icmp_le (tgt := 106) dX8_crossings_100 (by decide) (fun h100 => g_bipush kb_40 dX8_crossings_106 (g_iload1 dX8_crossings_108 (g_imul dX8_crossings_109 (g_iload3 dX8_crossings_110 (g_iadd dX8_crossings_111 (g_iconst ki_2 dX8_crossings_112 (g_iload6 dX8_crossings_113 (g_imul dX8_crossings_115 (g_iadd dX8_crossings_116 (g_istore7 dX8_crossings_117 rfl rfl (g_iload5 dX8_crossings_119 (g_aload0 dX8_crossings_121 (g_aload0 dX8_crossings_122 (g_mget fl_X8_93 mg_55 dX8_crossings_123 (g_iload7 dX8_crossings_126 (g_mia ma_55 dX8_crossings_128 ?b128_4 (g_aload0 dX8_crossings_129 (g_mget fl_X8_93 mg_55 dX8_crossings_130 (g_iload7 dX8_crossings_133 (g_iconst ki_1 dX8_crossings_135 (g_iadd dX8_crossings_136 (g_mia ma_55 dX8_crossings_137 ?b137_4 (?c138_4))))))))))))))))))))))) (fun h100 => ?s103_4')))))))))))))))))
            all_goals try rw [tx, Int.toNat_natCast, esz] at h100
            case s158_4 => omega
            case s103_4 => omega
            case s103_4' => omega
            case b92_4 => show _ ∧ _ < (4 : Int); omega
            case b128_4 => rw [eq0, eq1]; show _ ∧ _ < (160 : Int); omega
            case b137_4 => rw [eq0, nI_1, Nat.add_assoc, Nat.add_assoc]; rw [Nat.add_assoc] at eq2; rw [eq2]; show _ ∧ _ < (160 : Int); omega
            case c138_4 =>
              rw [eq0, eq1, nI_1, show 40 * i + (fa + 2 * k) + 1 = 40 * i + (fa + 2 * k + 1) by omega, eq2, Int.toNat_natCast, Int.toNat_natCast, v1, v2']
              refine g_V2i dX8_crossings_138 mv_X8_360 0 rfl rfl rfl (Nat.le_of_ble_eq_true rfl) (Nat.le_of_ble_eq_true rfl) (c_X8_cross (d := d) hN g5 g3 g4 _ _) (fun z1_ w1 hq => ?_)
              obtain ⟨rfl, v3, f3, rfl, k1, k2, k3, k4⟩ := hq
              have hnx := fun c D2 L2 => ih (k + 1) c D2 L2 v3 f3
              refine g_if_lt (tgt := 148) dX8_crossings_141 (by decide) (fun h141 => g_iconst ki_0 dX8_crossings_148 (g_iadd dX8_crossings_149 (g_istore5 dX8_crossings_150 rfl rfl (g_iinc6 ki_1 dX8_crossings_152 rfl rfl (g_goto (tgt := 75) dX8_crossings_155 (by decide) (?s75_5)))))) (fun h141 => g_iconst ki_1 dX8_crossings_144 (g_goto (tgt := 149) dX8_crossings_145 (by decide) (g_iadd dX8_crossings_149 (g_istore5 dX8_crossings_150 rfl rfl (g_iinc6 ki_1 dX8_crossings_152 rfl rfl (g_goto (tgt := 75) dX8_crossings_155 (by decide) (?s75_5')))))))
              case s75_5 =>
                rw [nI_1, Int32.add_zero]
                rw [if_neg (by omega)] at g7
                exact hnx c _ _ _ hst (by omega) (g1.tr k1) (g2.tr k2) k3 k4 ok1 (fun _ => by omega) g7
              case s75_5' =>
                rw [nI_1]
                rw [if_pos (by omega)] at g7
                exact hnx (c + 1) _ _ _ hst (by omega) (g1.tr k1) (g2.tr k2) k3 k4 ok1 (fun _ => by omega) g7
          · have hb := bad hok
            refine g_iload6 dX8_crossings_75 (g_iload4 dX8_crossings_77 (g_icmp_ge (tgt := 158) dX8_crossings_79 (by decide) (fun h79 => ?s158_6) (fun h79 => g_iload3 dX8_crossings_82 (g_if_lt (tgt := 103) dX8_crossings_83 (by decide) (fun h83 => g_bipush kb_m12 dX8_crossings_103 (g_iret rfl dX8_crossings_105 (Nat.le_of_ble_eq_true rfl) (Nat.le_of_ble_eq_true rfl) ?q105_6)) (fun h83 => g_iload3 dX8_crossings_86 (g_aload0 dX8_crossings_87 (g_mget fl_X8_90 mg_54 dX8_crossings_88 (g_iload1 dX8_crossings_91 (g_mia ma_54 dX8_crossings_92 ?b92_6 (g_iconst ki_2 dX8_crossings_93 (g_iload6 dX8_crossings_94 (g_imul dX8_crossings_96 (g_isub dX8_crossings_97 (g_iconst ki_2 dX8_crossings_98 (g_isub dX8_crossings_99 (g_icmp_le (tgt := 106) dX8_crossings_100 (by decide) (fun h100 => ?s106_6) (fun h100 => g_bipush kb_m12 dX8_crossings_103 (g_iret rfl dX8_crossings_105 (Nat.le_of_ble_eq_true rfl) (Nat.le_of_ble_eq_true rfl) ?q105_6'))))))))))))))))))
            all_goals try rw [tx, Int.toNat_natCast, esz] at h100
            case s158_6 => omega
            case s106_6 => omega
            case b92_6 => show _ ∧ _ < (4 : Int); omega
            case q105_6 => exact hb
            case q105_6' => exact hb
      subst ex
      refine g_aload0 dX8_crossings_35 (g_mget fl_X8_83 mg_52 dX8_crossings_36 (g_iload1 dX8_crossings_39 (g_mba ma_52 dX8_crossings_40 ?b40_7 (g_if_eq (tgt := 57) dX8_crossings_41 (by decide) (fun h41 => ?s57_7) (fun h41 => g_aload0 dX8_crossings_44 (g_mget fl_X8_87 mg_53 dX8_crossings_45 (g_iload1 dX8_crossings_48 (g_mia ma_53 dX8_crossings_49 ?b49_7 (g_iload2 dX8_crossings_50 (g_icmp_eq (tgt := 57) dX8_crossings_51 (by decide) (fun h51 => ?s57_7') (fun h51 => g_bipush kb_m13 dX8_crossings_54 (g_iret rfl dX8_crossings_56 (Nat.le_of_ble_eq_true rfl) (Nat.le_of_ble_eq_true rfl) ?q56_7))))))))))))
      all_goals try rw [tx, Int.toNat_natCast] at h41
      all_goals try rw [tx, Int.toNat_natCast, h53] at h51
      case b40_7 => show _ ∧ _ < (4 : Int); omega
      case b49_7 => show _ ∧ _ < (4 : Int); omega
      case q56_7 => exact q13 (by omega)
      case s57_7 => omega
      case s57_7' =>
        refine g_aload0 dX8_crossings_57 (g_mget fl_X8_83 mg_52 dX8_crossings_58 (g_iload1 dX8_crossings_61 (g_mba ma_52 dX8_crossings_62 ?b62_8 (g_if_ne (tgt := 69) dX8_crossings_63 (by decide) (fun h63 => g_iconst ki_0 dX8_crossings_69 (g_istore5 dX8_crossings_70 rfl rfl (g_iconst ki_0 dX8_crossings_72 (g_istore6 dX8_crossings_73 rfl rfl (?s75_8))))) (fun h63 => g_bipush kb_m11 dX8_crossings_66 (g_iret rfl dX8_crossings_68 (Nat.le_of_ble_eq_true rfl) (Nat.le_of_ble_eq_true rfl) ?q68_8))))))
        all_goals try rw [tx, Int.toNat_natCast] at h63
        case b62_8 => show _ ∧ _ < (4 : Int); omega
        case q68_8 => omega
        case s75_8 => exact loop mn 0 0 D L v f _ h51 (by omega) agV.rf agF.rf hM hL hD (fun q => by omega) rfl
end S99f
