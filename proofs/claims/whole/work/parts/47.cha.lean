def cntD (D : Dg) (z : Int32) (m : Nat) (most : Int) : Nat → Nat
  | 0 => 0
  | t + 1 => cntD D z m most t + (if (sDr D (z + nI t) m : Int) ≤ most then 1 else 0)
theorem cntD_le (D : Dg) (z : Int32) (m : Nat) (most : Int) : ∀ t, cntD D z m most t ≤ t
  | 0 => Nat.le_refl _
  | t + 1 => by
    have := cntD_le D z m most t
    unfold cntD
    split <;> omega
def sChance (D : Dg) (z many m most part : Int32) : Int64 :=
  if ¬ ((1 ≤ many.toInt ∧ many.toInt ≤ 20) ∧ (0 ≤ m.toInt ∧ m.toInt ≤ 40) ∧ (0 ≤ most.toInt ∧ most.toInt ≤ 40) ∧ (0 ≤ part.toInt ∧ part.toInt ≤ 1)) then -4611686018427387904
  else if part.toInt = 0 then lN (cntD D z m.toInt.toNat most.toInt many.toInt.toNat / Nat.gcd (cntD D z m.toInt.toNat most.toInt many.toInt.toNat) many.toInt.toNat)
  else lN (many.toInt.toNat / Nat.gcd (cntD D z m.toInt.toNat most.toInt many.toInt.toNat) many.toInt.toNat)
section S47
variable {E : GE} {d : Nat} {a : Nat → Nat} {D : Dg} {r : Nat} {L : List Cr} {im tc : Int32} {w : va_W}
set_option maxRecDepth 20000 in
set_option maxHeartbeats 1000000 in
theorem c_gcd (hN : g_N E) {x y : Nat} (hx : x ≤ 20) (hy : y ≤ 20) (hy0 : 0 < y) : g_Ci E mX7_greatestDivisor (d + 1) [.int (nI x), .int (nI y)] [] (fun v w' => v = nI (Nat.gcd x y) ∧ w' = []) := by
  refine g_enterI hN.1 (by decide) [some (.int (nI x)), some (.int (nI y)), none, none, none, none] rfl (Nat.le_of_ble_eq_true rfl) (fun A Q hQ => ?_)
  have tc0 := tc_0; have tc1 := tc_1; have tc64 := tc_64
  have loop : ∀ t i (u v : Nat) (l5 : Option Value), i + t = 64 → u ≤ 20 → v ≤ 20 → v < t → 0 < u + v → Nat.gcd u v = Nat.gcd x y → g_c1 l5 = true → G E mX7_greatestDivisor (d + 1) 0 0 A Q 0 0 7 [some (.int (nI x)), some (.int (nI y)), some (.int (nI u)), some (.int (nI v)), some (.int (nI i)), l5] [] [] := by
    intro t
    induction t with
    | zero => intro i u v l5 _ _ _ h; omega
    | succ t ih =>
      intro i u v l5 hi hu hv hvt hpos hg hl5
      have ei := t_nI (n := i) (by omega)
      have ev := t_nI (n := v) (by omega)
      have eu := t_nI (n := u) (by omega)
      by_cases hv0 : v = 0
      · subst hv0
        have hgu : Nat.gcd x y = u := by rw [← hg, Nat.gcd_zero_right]
        refine g_iload4 dX7_greatestDivisor_7 (g_bipush kb_64 dX7_greatestDivisor_9 (g_icmp_ge (tgt := 34) dX7_greatestDivisor_11 (by decide) (fun h11 => g_iload2 dX7_greatestDivisor_34 (g_if_ne (tgt := 42) dX7_greatestDivisor_35 (by decide) (fun h35 => g_iload2 dX7_greatestDivisor_42 (g_iret rfl dX7_greatestDivisor_43 (Nat.le_of_ble_eq_true rfl) (Nat.le_of_ble_eq_true rfl) ?q43)) (fun h35 => g_iconst ki_1 dX7_greatestDivisor_38 (g_goto (tgt := 43) dX7_greatestDivisor_39 (by decide) (g_iret rfl dX7_greatestDivisor_43 (Nat.le_of_ble_eq_true rfl) (Nat.le_of_ble_eq_true rfl) ?q43'))))) (fun h11 => g_iload3 dX7_greatestDivisor_14 (g_if_eq (tgt := 34) dX7_greatestDivisor_15 (by decide) (fun h15 => g_iload2 dX7_greatestDivisor_34 (g_if_ne (tgt := 42) dX7_greatestDivisor_35 (by decide) (fun h35 => g_iload2 dX7_greatestDivisor_42 (g_iret rfl dX7_greatestDivisor_43 (Nat.le_of_ble_eq_true rfl) (Nat.le_of_ble_eq_true rfl) ?q43'')) (fun h35 => g_iconst ki_1 dX7_greatestDivisor_38 (g_goto (tgt := 43) dX7_greatestDivisor_39 (by decide) (g_iret rfl dX7_greatestDivisor_43 (Nat.le_of_ble_eq_true rfl) (Nat.le_of_ble_eq_true rfl) ?q43'''))))) (fun h15 => ?s18)))))
        case q43 => omega
        case q43' => omega
        case q43'' => exact hQ _ _ ⟨by rw [hgu], rfl⟩
        case q43''' => omega
        case s18 => omega
      · have hr := pk_rem (a := u) (d := v) (by omega) (by omega) (by omega)
        have hm := Nat.mod_lt u (show v > 0 by omega)
        refine g_iload4 dX7_greatestDivisor_7 (g_bipush kb_64 dX7_greatestDivisor_9 (g_icmp_ge (tgt := 34) dX7_greatestDivisor_11 (by decide) (fun h11 => ?s34_2) (fun h11 => g_iload3 dX7_greatestDivisor_14 (g_if_eq (tgt := 34) dX7_greatestDivisor_15 (by decide) (fun h15 => ?s34_2') (fun h15 => g_iload2 dX7_greatestDivisor_18 (g_iload3 dX7_greatestDivisor_19 (g_irem dX7_greatestDivisor_20 ?z20_2 (g_istore5 dX7_greatestDivisor_21 rfl rfl (g_iload3 dX7_greatestDivisor_23 (g_istore2 dX7_greatestDivisor_24 rfl rfl (g_iload5 dX7_greatestDivisor_25 (g_istore3 dX7_greatestDivisor_27 rfl rfl (g_iinc4 ki_1 dX7_greatestDivisor_28 rfl rfl (g_goto (tgt := 7) dX7_greatestDivisor_31 (by decide) (?s7_2)))))))))))))))
        case s34_2 => omega
        case s34_2' => omega
        case z20_2 =>
          intro q
          have h1 := congrArg Int32.toInt q
          have h0 : (0 : Int32).toInt = 0 := by decide
          omega
        case s7_2 =>
          rw [hr, nI_1]
          refine ih (i + 1) v (u % v) _ (by omega) hv (by omega) (by omega) (by omega) ?_ rfl
          rw [← hg, Nat.gcd_comm u v, Nat.gcd_rec v u, Nat.gcd_comm]
  refine g_iload0 dX7_greatestDivisor_0 (g_istore2 dX7_greatestDivisor_1 rfl rfl (g_iload1 dX7_greatestDivisor_2 (g_istore3 dX7_greatestDivisor_3 rfl rfl (g_iconst ki_0 dX7_greatestDivisor_4 (g_istore4 dX7_greatestDivisor_5 rfl rfl (?s7_3))))))
  exact loop 64 0 x y _ rfl hx hy (by omega) (by omega) rfl rfl
set_option maxRecDepth 20000 in
set_option maxHeartbeats 1000000 in
theorem c_chance (hN : g_N E) (hw : Ath E a D r L im tc w) (z many m most part : Int32) : g_Cl E mX7_chance (d + 5) [.ref (a 0), .int z, .int many, .int m, .int most, .int part] w (fun y w' => y = sChance D z many m most part ∧ Ath E a D r L im tc w') := by
  have hw' := hw
  obtain ⟨kd, pc, nb, hs, od, pl, ov, on, ot, be, pl2, ov2, on2, ot2, be2, n2, rfl⟩ := hw.lit
  refine g_enterL hN.1 (by decide) [some (.ref (a 0)), some (.int z), some (.int many), some (.int m), some (.int most), some (.int part), none, none] rfl (Nat.le_of_ble_eq_true rfl) (fun A Q hQ => ?_)
  have tc0 := tc_0; have tc1 := tc_1; have tc20 := tc_20; have tc40 := tc_40
  have z0 := g_biz (p := ((1 : Int32).toInt ≤ many.toInt ∧ many.toInt ≤ (20 : Int32).toInt))
  have z1 := g_biz (p := ((0 : Int32).toInt ≤ m.toInt ∧ m.toInt ≤ (40 : Int32).toInt))
  have z2 := g_biz (p := ((0 : Int32).toInt ≤ most.toInt ∧ most.toInt ≤ (40 : Int32).toInt))
  have z3 := g_biz (p := ((0 : Int32).toInt ≤ part.toInt ∧ part.toInt ≤ (1 : Int32).toInt))
  unfold sChance at hQ
  refine g_iload2 dX7_chance_0 (g_iconst ki_1 dX7_chance_1 (g_bipush kb_20 dX7_chance_2 (r_X7_isWithin hN mv_X7_100 dX7_chance_4 (Nat.le_of_ble_eq_true rfl) (Nat.le_of_ble_eq_true rfl) rfl (g_if_eq (tgt := 41) dX7_chance_7 (by decide) (fun h7 => g_ldc2_w kj_X7_261 dX7_chance_41 (g_lret rfl dX7_chance_44 (Nat.le_of_ble_eq_true rfl) (Nat.le_of_ble_eq_true rfl) ?q44)) (fun h7 => g_iload3 dX7_chance_10 (g_iconst ki_0 dX7_chance_11 (g_bipush kb_40 dX7_chance_12 (r_X7_isWithin hN mv_X7_100 dX7_chance_14 (Nat.le_of_ble_eq_true rfl) (Nat.le_of_ble_eq_true rfl) rfl (g_if_eq (tgt := 41) dX7_chance_17 (by decide) (fun h17 => g_ldc2_w kj_X7_261 dX7_chance_41 (g_lret rfl dX7_chance_44 (Nat.le_of_ble_eq_true rfl) (Nat.le_of_ble_eq_true rfl) ?q44')) (fun h17 => g_iload4 dX7_chance_20 (g_iconst ki_0 dX7_chance_22 (g_bipush kb_40 dX7_chance_23 (r_X7_isWithin hN mv_X7_100 dX7_chance_25 (Nat.le_of_ble_eq_true rfl) (Nat.le_of_ble_eq_true rfl) rfl (g_if_eq (tgt := 41) dX7_chance_28 (by decide) (fun h28 => g_ldc2_w kj_X7_261 dX7_chance_41 (g_lret rfl dX7_chance_44 (Nat.le_of_ble_eq_true rfl) (Nat.le_of_ble_eq_true rfl) ?q44'')) (fun h28 => g_iload5 dX7_chance_31 (g_iconst ki_0 dX7_chance_33 (g_iconst ki_1 dX7_chance_34 (r_X7_isWithin hN mv_X7_100 dX7_chance_35 (Nat.le_of_ble_eq_true rfl) (Nat.le_of_ble_eq_true rfl) rfl (g_if_ne (tgt := 45) dX7_chance_38 (by decide) (fun h38 => g_iconst ki_0 dX7_chance_45 (g_istore6 dX7_chance_46 rfl rfl (g_iconst ki_0 dX7_chance_48 (g_istore7 dX7_chance_49 rfl rfl (?s51))))) (fun h38 => g_ldc2_w kj_X7_261 dX7_chance_41 (g_lret rfl dX7_chance_44 (Nat.le_of_ble_eq_true rfl) (Nat.le_of_ble_eq_true rfl) ?q44''')))))))))))))))))))))
  case q44 => rw [if_pos (by omega)] at hQ; exact hQ _ _ ⟨rfl, hw'⟩
  case q44' => rw [if_pos (by omega)] at hQ; exact hQ _ _ ⟨rfl, hw'⟩
  case q44'' => rw [if_pos (by omega)] at hQ; exact hQ _ _ ⟨rfl, hw'⟩
  case q44''' => rw [if_pos (by omega)] at hQ; exact hQ _ _ ⟨rfl, hw'⟩
  case s51 =>
    rw [if_neg (by omega)] at hQ
    have em : many = nI many.toInt.toNat := t_of (by omega)
    have emm : m = nI m.toInt.toNat := t_of (by omega)
    have loop : ∀ t i w, i + t = many.toInt.toNat → Ath E a D r L im tc w → G E mX7_chance (d + 5) 0 0 A Q 0 0 51 [some (.ref (a 0)), some (.int z), some (.int many), some (.int m), some (.int most), some (.int part), some (.int (nI (cntD D z m.toInt.toNat most.toInt i))), some (.int (nI i))] [] w := by
      intro t
      induction t with
      | zero =>
        intro i w hi hw
        have ei := t_nI (n := i) (by omega)
        have hii : i = many.toInt.toNat := by omega
        subst hii
        have hcl := cntD_le D z m.toInt.toNat most.toInt many.toInt.toNat
        generalize hcc : cntD D z m.toInt.toNat most.toInt many.toInt.toNat = cc at *
        have hg := c_gcd (d := d + 3) hN (x := cc) (y := many.toInt.toNat) (by omega) (by omega) (by omega)
        rw [← em] at hg
        have hgp := Nat.gcd_pos_of_pos_right cc (show 0 < many.toInt.toNat by omega)
        have hgl := Nat.le_of_dvd (show 0 < many.toInt.toNat by omega) (Nat.gcd_dvd_right cc many.toInt.toNat)
        have eg := t_nI (n := Nat.gcd cc many.toInt.toNat) (by omega)
        have hne : ¬ nI (Nat.gcd cc many.toInt.toNat) = 0 := fun q => by
          have h1 := congrArg Int32.toInt q
          have h0 : (0 : Int32).toInt = 0 := by decide
          omega
        refine g_iload7 dX7_chance_51 (g_iload2 dX7_chance_53 (g_icmp_ge (tgt := 80) dX7_chance_54 (by decide) (fun h54 => g_iload6 dX7_chance_80 (g_iload2 dX7_chance_82 (?c83_2))) (fun h54 => ?s57_2)))
        case s57_2 => omega
        case c83_2 =>
          refine g_S2i dX7_chance_83 mv_X7_263 rfl (Nat.le_of_ble_eq_true rfl) (Nat.le_of_ble_eq_true rfl) (hg.frame (X := []) (Y := w)) (fun r1 w1 hq => ?_)
          obtain ⟨w2, ⟨rfl, rfl⟩, rfl⟩ := hq
          refine g_istore7 dX7_chance_86 rfl rfl (g_iload5 dX7_chance_88 (g_if_ne (tgt := 98) dX7_chance_90 (by decide) (fun h90 => g_iload2 dX7_chance_98 (g_iload7 dX7_chance_99 (g_idiv dX7_chance_101 ?z101_3 (g_i2l dX7_chance_102 (g_lret rfl dX7_chance_103 (Nat.le_of_ble_eq_true rfl) (Nat.le_of_ble_eq_true rfl) ?q103_3))))) (fun h90 => g_iload6 dX7_chance_93 (g_goto (tgt := 99) dX7_chance_95 (by decide) (g_iload7 dX7_chance_99 (g_idiv dX7_chance_101 ?z101_3' (g_i2l dX7_chance_102 (g_lret rfl dX7_chance_103 (Nat.le_of_ble_eq_true rfl) (Nat.le_of_ble_eq_true rfl) ?q103_3'))))))))
          case z101_3 => exact hne
          case z101_3' => exact hne
          case q103_3 =>
            rw [if_neg (by omega)] at hQ
            refine hQ _ _ ⟨?_, hw⟩
            have hd := pk_div (a := many.toInt.toNat) (d := Nat.gcd cc many.toInt.toNat) (by omega) (by omega) (by omega)
            rw [← em] at hd
            rw [hd, nI_l (by have := Nat.div_le_self many.toInt.toNat (Nat.gcd cc many.toInt.toNat); omega)]
          case q103_3' =>
            rw [if_pos (by omega)] at hQ
            refine hQ _ _ ⟨?_, hw⟩
            rw [pk_div (by omega) (by omega) (by omega), nI_l (by have := Nat.div_le_self cc (Nat.gcd cc many.toInt.toNat); omega)]
      | succ t ih =>
        intro i w hi hw
        have hw' := hw
        obtain ⟨kd, pc, nb, hs, od, pl, ov, on, ot, be, pl2, ov2, on2, ot2, be2, n2, rfl⟩ := hw.lit
        have ei := t_nI (n := i) (by omega)
        have hcl := cntD_le D z m.toInt.toNat most.toInt i
        have hl := c_leftOfDrawn (d := d) hN hw' (z + nI i) (m := m.toInt.toNat) (by omega)
        rw [← emm] at hl
        have hdl : sDr D (z + nI i) m.toInt.toNat ≤ 40 := by
          unfold sDr
          split
          · omega
          · have h1 := drF_len (D.1.length - 1) m.toInt.toNat (z + nI i) []
            have h2 : ([] : List Cr).length = 0 := rfl
            omega
        have ed := t_nI (n := sDr D (z + nI i) m.toInt.toNat) (by omega)
        refine g_iload7 dX7_chance_51 (g_iload2 dX7_chance_53 (g_icmp_ge (tgt := 80) dX7_chance_54 (by decide) (fun h54 => ?s80_4) (fun h54 => g_aload0 dX7_chance_57 (g_iload1 dX7_chance_58 (g_iload7 dX7_chance_59 (g_iadd dX7_chance_61 (g_iload3 dX7_chance_62 (?c63_4))))))))
        case s80_4 => omega
        case c63_4 =>
          refine g_V2i dX7_chance_63 mv_X7_258 0 rfl rfl rfl (Nat.le_of_ble_eq_true rfl) (Nat.le_of_ble_eq_true rfl) (hl) (fun r1 w1 hq => ?_)
          obtain ⟨rfl, hw3⟩ := hq
          have hn := ih (i + 1) _ (by omega) hw3
          rw [cntD] at hn
          refine g_iload4 dX7_chance_66 (g_icmp_gt (tgt := 74) dX7_chance_68 (by decide) (fun h68 => g_iinc7 ki_1 dX7_chance_74 rfl rfl (g_goto (tgt := 51) dX7_chance_77 (by decide) (?s51_5))) (fun h68 => g_iinc6 ki_1 dX7_chance_71 rfl rfl (g_iinc7 ki_1 dX7_chance_74 rfl rfl (g_goto (tgt := 51) dX7_chance_77 (by decide) (?s51_5')))))
          case s51_5 =>
            rw [nI_1]
            rw [if_neg (by omega)] at hn
            exact hn
          case s51_5' =>
            rw [nI_1, nI_1]
            rw [if_pos (by omega)] at hn
            exact hn
    exact loop many.toInt.toNat 0 _ (by omega) hw'
end S47
