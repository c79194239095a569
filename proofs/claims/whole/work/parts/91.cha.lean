theorem lN_div {a y : Nat} (ha : a < 2 ^ 31) (h0 : 0 < y) (hy : y < 2 ^ 31) : lN a / lN y = lN (a / y) := by
  apply Int64.toInt_inj.mp
  have h1 := Nat.div_le_self a y
  rw [Int64.toInt_div, lN_toInt ha, lN_toInt hy, lN_toInt (by omega), ← Int.ofNat_tdiv]
  generalize a / y = q at h1 ⊢
  exact Int.bmod_eq_of_le (by omega) (by omega)
theorem lN_rem {a y : Nat} (ha : a < 2 ^ 31) (h0 : 0 < y) (hy : y < 2 ^ 31) : lN a - lN a / lN y * lN y = lN (a % y) := by
  rw [lN_div ha h0 hy, lN_mul, lN_sub (Nat.div_mul_le_self a y)]
  congr 1
  have := Nat.div_add_mod a y
  rw [Nat.mul_comm] at this
  omega
section S91
variable {E : GE} {d : Nat} {b : Nat → Nat} {v : Nat → Int32} {t : Int64} {f : Nat → Nat → Int32} {D : Dg}
theorem sDr_le (D : Dg) (z : Int32) {m : Nat} (hm : m ≤ 40) : sDr D z m ≤ 40 := by
  unfold sDr
  split
  · omega
  · have h1 := drF_len (D.1.length - 1) m z []
    have h2 : ([] : List Cr).length = 0 := rfl
    omega
set_option maxRecDepth 20000 in
set_option maxHeartbeats 4000000 in
theorem c_X8_chance (hN : g_N E) (hD : dgOK D) (hM : MD v f D) (z many m most part : Int32) : g_Cl E mX8_chance (d + 4) [.ref (b 0), .int z, .int many, .int m, .int most, .int part] (mW E b v t f) (fun y w => y = sChance D z many m most part ∧ ∃ v' f', w = mW E b v' t f' ∧ agV [34] v v' ∧ agF [31, 32, 33] f f') := by
  refine g_enterL hN.1 (by decide) [some (.ref (b 0)), some (.int z), some (.int many), some (.int m), some (.int most), some (.int part), none, none, none, none, none, none, none, none] rfl (Nat.le_of_ble_eq_true rfl) (fun A Q hQ => ?_)
  have tc0 := tc_0; have tc1 := tc_1
  unfold sChance at hQ
  refine g_iload2 dX8_chance_0 (g_i2l dX8_chance_1 (g_lconst kl_1 dX8_chance_2 (g_ldc2_w kj_X8_343 dX8_chance_3 (r_X8_in hN mv_X8_106 dX8_chance_6 (Nat.le_of_ble_eq_true rfl) (Nat.le_of_ble_eq_true rfl) rfl (g_if_eq (tgt := 48) dX8_chance_9 (by decide) (fun h9 => g_ldc2_w kj_X8_345 dX8_chance_48 (g_lret rfl dX8_chance_51 (Nat.le_of_ble_eq_true rfl) (Nat.le_of_ble_eq_true rfl) ?q51)) (fun h9 => g_iload3 dX8_chance_12 (g_i2l dX8_chance_13 (g_lconst kl_0 dX8_chance_14 (g_ldc2_w kj_X8_340 dX8_chance_15 (r_X8_in hN mv_X8_106 dX8_chance_18 (Nat.le_of_ble_eq_true rfl) (Nat.le_of_ble_eq_true rfl) rfl (g_if_eq (tgt := 48) dX8_chance_21 (by decide) (fun h21 => g_ldc2_w kj_X8_345 dX8_chance_48 (g_lret rfl dX8_chance_51 (Nat.le_of_ble_eq_true rfl) (Nat.le_of_ble_eq_true rfl) ?q51')) (fun h21 => g_iload4 dX8_chance_24 (g_i2l dX8_chance_26 (g_lconst kl_0 dX8_chance_27 (g_ldc2_w kj_X8_340 dX8_chance_28 (r_X8_in hN mv_X8_106 dX8_chance_31 (Nat.le_of_ble_eq_true rfl) (Nat.le_of_ble_eq_true rfl) rfl (g_if_eq (tgt := 48) dX8_chance_34 (by decide) (fun h34 => g_ldc2_w kj_X8_345 dX8_chance_48 (g_lret rfl dX8_chance_51 (Nat.le_of_ble_eq_true rfl) (Nat.le_of_ble_eq_true rfl) ?q51'')) (fun h34 => g_iload5 dX8_chance_37 (g_i2l dX8_chance_39 (g_lconst kl_0 dX8_chance_40 (g_lconst kl_1 dX8_chance_41 (r_X8_in hN mv_X8_106 dX8_chance_42 (Nat.le_of_ble_eq_true rfl) (Nat.le_of_ble_eq_true rfl) rfl (g_if_ne (tgt := 52) dX8_chance_45 (by decide) (fun h45 => ?s52) (fun h45 => g_ldc2_w kj_X8_345 dX8_chance_48 (g_lret rfl dX8_chance_51 (Nat.le_of_ble_eq_true rfl) (Nat.le_of_ble_eq_true rfl) ?q51''')))))))))))))))))))))))))
  all_goals try simp only [g_biz, Int32.toInt_toInt64, tl_m4611686018427387904, tl_m1, tl_0, tl_1, tl_2, tl_3, tl_4, tl_5, tl_9, tl_10, tl_20, tl_40, tl_43, tl_48, tl_57, tl_60, tl_97, tl_99, tl_122, tl_255] at *
  case q51 => rw [if_pos (by omega)] at hQ; exact hQ _ _ ⟨rfl, v, f, rfl, agV.rf, agF.rf⟩
  case q51' => rw [if_pos (by omega)] at hQ; exact hQ _ _ ⟨rfl, v, f, rfl, agV.rf, agF.rf⟩
  case q51'' => rw [if_pos (by omega)] at hQ; exact hQ _ _ ⟨rfl, v, f, rfl, agV.rf, agF.rf⟩
  case q51''' => rw [if_pos (by omega)] at hQ; exact hQ _ _ ⟨rfl, v, f, rfl, agV.rf, agF.rf⟩
  case s52 =>
    rw [if_neg (by omega)] at hQ
    have em : many = nI many.toInt.toNat := t_of (by omega)
    generalize hmn : many.toInt.toNat = mn at *
    have emn := t_nI (n := mn) (by omega)
    have loop : ∀ (u i : Nat) v2 f2, i + u = mn → agV [34] v v2 → agF [31, 32, 33] f f2 → ∀ l9, G E mX8_chance (d + 4) 0 0 A Q 0 0 58 [some (.ref (b 0)), some (.int z), some (.int many), some (.int m), some (.int most), some (.int part), some (.long (lN (cntD D z m.toInt.toNat most.toInt i))), none, some (.int (nI i)), l9, none, none, none, none] [] (mW E b v2 t f2) := by
      intro u
      induction u with
      | zero =>
        intro i v2 f2 hi hag hagf l9
        have ei := t_nI (n := i) (by omega)
        have hii : i = mn := by omega
        subst hii
        have hcl := cntD_le D z m.toInt.toNat most.toInt i
        generalize hcc : cntD D z m.toInt.toNat most.toInt i = cc at *
        have hgp := Nat.gcd_pos_of_pos_right cc (show 0 < i by omega)
        have hgl := Nat.le_of_dvd (show 0 < i by omega) (Nat.gcd_dvd_right cc i)
        have lng : ∀ n : Nat, 0 < n → n < 2 ^ 31 → ¬ lN n = 0 := fun n h0 hn q => by
          have h1 := congrArg Int64.toInt q
          rw [lN_toInt hn] at h1
          have h0 : (0 : Int64).toInt = 0 := by decide
          omega
        have fin : ∀ g : Nat, g = Nat.gcd cc i → ∀ l10 l11 l12 l13, G E mX8_chance (d + 4) 0 0 A Q 0 0 127 [some (.ref (b 0)), some (.int z), some (.int many), some (.int m), some (.int most), some (.int part), some (.long (lN cc)), none, some (.long (lN g)), none, l10, l11, l12, l13] [] (mW E b v2 t f2) := by
          intro g hg l10 l11 l12 l13
          have hgn := lng g (by omega) (by omega)
          rw [← hg] at hQ hgp hgl
          refine g_iload5 dX8_chance_127 (g_if_ne (tgt := 140) dX8_chance_129 (by decide) (fun h129 => g_iload2 dX8_chance_140 (g_i2l dX8_chance_141 (g_lload8 dX8_chance_142 (g_ldiv dX8_chance_144 ?z144_2 (g_lret rfl dX8_chance_145 (Nat.le_of_ble_eq_true rfl) (Nat.le_of_ble_eq_true rfl) ?q145_2))))) (fun h129 => g_lload6 dX8_chance_132 (g_lload8 dX8_chance_134 (g_ldiv dX8_chance_136 ?z136_2 (g_goto (tgt := 145) dX8_chance_137 (by decide) (g_lret rfl dX8_chance_145 (Nat.le_of_ble_eq_true rfl) (Nat.le_of_ble_eq_true rfl) ?q145_2'))))))
          case z144_2 => exact hgn
          case z136_2 => exact hgn
          case q145_2 =>
            rw [if_neg (by omega)] at hQ
            refine hQ _ _ ⟨?_, v2, f2, rfl, hag, hagf⟩
            rw [em, nI_l (by omega), lN_div (by omega) hgp (by omega)]
          case q145_2' =>
            rw [if_pos (by omega)] at hQ
            refine hQ _ _ ⟨?_, v2, f2, rfl, hag, hagf⟩
            rw [lN_div (by omega) hgp (by omega)]
        have gl : ∀ (w p q : Nat), q < w → p ≤ 20 → q ≤ 20 → Nat.gcd p q = Nat.gcd cc i → ∀ l12 l13 : Option Value, l13 = none → G E mX8_chance (d + 4) 0 0 A Q 0 0 102 [some (.ref (b 0)), some (.int z), some (.int many), some (.int m), some (.int most), some (.int part), some (.long (lN cc)), none, some (.long (lN p)), none, some (.long (lN q)), none, l12, l13] [] (mW E b v2 t f2) := by
          intro w
          induction w with
          | zero => intro p q h; omega
          | succ w ihw =>
            intro p q hqw hp hq hg l12 l13 hl13
            subst hl13
            have hlg := lg_c (lN q) 0
            rw [lN_toInt (by omega), show (0 : Int64).toInt = 0 by decide] at hlg
            by_cases hq0 : q = 0
            · subst hq0
              have hgu : p = Nat.gcd cc i := by rw [← hg, Nat.gcd_zero_right]
              refine g_lload10 dX8_chance_102 (g_lconst kl_0 dX8_chance_104 (g_lcmp dX8_chance_105 (g_if_eq (tgt := 127) dX8_chance_106 (by decide) (fun h106 => ?s127_3) (fun h106 => ?s109_3))))
              case s127_3 => exact fin p hgu _ _ _ _
              case s109_3 => rw [if_neg (by omega), if_neg (by omega)] at hlg; omega
            · have hm := Nat.mod_lt p (show q > 0 by omega)
              refine g_lload10 dX8_chance_102 (g_lconst kl_0 dX8_chance_104 (g_lcmp dX8_chance_105 (g_if_eq (tgt := 127) dX8_chance_106 (by decide) (fun h106 => ?s127_4) (fun h106 => g_lload8 dX8_chance_109 (g_lload10 dX8_chance_111 (g_lrem dX8_chance_113 ?z113_4 (g_lstore12 dX8_chance_114 rfl rfl (g_lload10 dX8_chance_116 (g_lstore8 dX8_chance_118 rfl rfl (g_lload12 dX8_chance_120 (g_lstore10 dX8_chance_122 rfl rfl (g_goto (tgt := 102) dX8_chance_124 (by decide) (?s102_4)))))))))))))
              case s127_4 => rw [if_neg (by omega), if_pos (by omega)] at hlg; omega
              case z113_4 => exact lng q (by omega) (by omega)
              case s102_4 =>
                rw [lN_rem (by omega) (by omega) (by omega)]
                refine ihw q (p % q) (by omega) hq (by omega) ?_ _ _ rfl
                rw [← hg, Nat.gcd_comm p q, Nat.gcd_rec q p, Nat.gcd_comm]
        refine g_iload8 dX8_chance_58 (g_iload2 dX8_chance_60 (g_icmp_ge (tgt := 94) dX8_chance_61 (by decide) (fun h61 => g_lload6 dX8_chance_94 (g_lstore8 dX8_chance_96 rfl rfl (g_iload2 dX8_chance_98 (g_i2l dX8_chance_99 (g_lstore10 dX8_chance_100 rfl rfl (?s102_5)))))) (fun h61 => ?s64_5)))
        case s64_5 => omega
        case s102_5 =>
          rw [em, nI_l (by omega)]
          have := gl 21 cc i (by omega) (by omega) (by omega) rfl none none rfl
          rw [em] at this
          exact this
      | succ u ih =>
        intro i v2 f2 hi hag hagf l9
        have ei := t_nI (n := i) (by omega)
        have hcl := cntD_le D z m.toInt.toNat most.toInt i
        have hdl := sDr_le D (z + nI i) (m := m.toInt.toNat) (by omega)
        have ed := t_nI (n := sDr D (z + nI i) m.toInt.toNat) (by omega)
        refine g_iload8 dX8_chance_58 (g_iload2 dX8_chance_60 (g_icmp_ge (tgt := 94) dX8_chance_61 (by decide) (fun h61 => ?s94_6) (fun h61 => g_lload6 dX8_chance_64 (g_aload0 dX8_chance_66 (g_iload1 dX8_chance_67 (g_iload8 dX8_chance_68 (g_iadd dX8_chance_70 (g_iload3 dX8_chance_71 (?c72_6)))))))))
        case s94_6 => omega
        case c72_6 =>
          refine g_V2i dX8_chance_72 mv_X8_347 0 rfl rfl rfl (Nat.le_of_ble_eq_true rfl) (Nat.le_of_ble_eq_true rfl) (c_X8_drawn (d := d) hN hD (hM.ag hag hagf rfl rfl) (z + nI i) m) (fun z1_ w1 hq => ?_)
          obtain ⟨hz1, v3, f3, rfl, g1, g2⟩ := hq
          unfold sDrawn at hz1
          rw [if_pos (by omega)] at hz1
          subst hz1
          have hn := ih (i + 1) v3 f3 (by omega) (hag.tr g1) (hagf.tr g2)
          rw [cntD] at hn
          refine g_iload4 dX8_chance_75 (g_icmp_gt (tgt := 84) dX8_chance_77 (by decide) (fun h77 => g_lconst kl_0 dX8_chance_84 (g_ladd dX8_chance_85 (g_lstore6 dX8_chance_86 rfl rfl (g_iinc8 ki_1 dX8_chance_88 rfl rfl (g_goto (tgt := 58) dX8_chance_91 (by decide) (?s58_7)))))) (fun h77 => g_lconst kl_1 dX8_chance_80 (g_goto (tgt := 85) dX8_chance_81 (by decide) (g_ladd dX8_chance_85 (g_lstore6 dX8_chance_86 rfl rfl (g_iinc8 ki_1 dX8_chance_88 rfl rfl (g_goto (tgt := 58) dX8_chance_91 (by decide) (?s58_7'))))))))
          case s58_7 =>
            rw [if_neg (by omega)] at hn
            rw [nI_1, show (0 : Int64) = lN 0 from rfl, lN_add]
            exact hn _
          case s58_7' =>
            rw [if_pos (by omega)] at hn
            rw [nI_1, lN_1]
            exact hn _
    refine g_lconst kl_0 dX8_chance_52 (g_lstore6 dX8_chance_53 rfl rfl (g_iconst ki_0 dX8_chance_55 (g_istore8 dX8_chance_56 rfl rfl (?s58_8))))
    exact loop mn 0 v f (by omega) agV.rf agF.rf _
end S91
