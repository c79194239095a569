/-! crossings, the order of a sheet, swaps -/
/-- the dogs, the plait, the sheets' row, one sheet -/
def Axs (E : GE) (a : Nat → Nat) (D : Dg) (r : Nat) (L : List Cr) (im tc : Int32) (i : Nat) (s : Int32 × List Int32) (w : va_W) : Prop := i < 4 ∧ ∃ w1 ws, Apk E a D r L im tc w1 ∧ Sht E a (78 + 2 * i) s.1 s.2 ws ∧ w = w1 ++ ((a 50, raS E a) :: ws)
theorem getD_ai {l : List Int32} {i : Nat} (h : i < l.length) : l[i]? = some (l.getD i 0) := by
  rw [List.getD_eq_getElem?_getD, List.getElem?_eq_getElem h]; rfl
def xsF (V : List Int32) (f : Int32) : Nat → Nat → Int32 → Dg → List Cr → Int32 × Dg × List Cr
  | 0, _, c, D, L => (c, D, L)
  | t + 1, i, c, D, L =>
    if (0 ≤ (f + 2 * nI i).toInt ∧ (f + 2 * nI i).toInt < V.length) ∧ (0 ≤ (f + 2 * nI i + 1).toInt ∧ (f + 2 * nI i + 1).toInt < V.length) then
      xsF V f t (i + 1) (if 0 < (sCross D L (V.getD (f + 2 * nI i).toInt.toNat 0) (V.getD (f + 2 * nI i + 1).toInt.toNat 0)).1.toInt then c + 1 else c) (sCross D L (V.getD (f + 2 * nI i).toInt.toNat 0) (V.getD (f + 2 * nI i + 1).toInt.toNat 0)).2.1 (sCross D L (V.getD (f + 2 * nI i).toInt.toNat 0) (V.getD (f + 2 * nI i + 1).toInt.toNat 0)).2.2
    else (-12, D, L)
def sXs (D : Dg) (L : List Cr) (s : Int32 × List Int32) (x so f m : Int32) : Int32 × Dg × List Cr :=
  if ¬ ((0 ≤ x.toInt ∧ x.toInt ≤ 3) ∧ (0 ≤ so.toInt ∧ so.toInt ≤ 2) ∧ (0 ≤ m.toInt ∧ m.toInt ≤ 20)) then (-2, D, L)
  else if s.1.toInt = -1 then (-11, D, L)
  else if ¬ s.1.toInt = so.toInt then (-13, D, L)
  else xsF s.2 f m.toInt.toNat 0 0 D L
section S53
variable {E : GE} {d : Nat} {a : Nat → Nat} {D : Dg} {r : Nat} {L : List Cr} {im tc : Int32} {w : va_W} {i : Nat} {s : Int32 × List Int32}
set_option maxRecDepth 20000 in
set_option maxHeartbeats 2000000 in
theorem c_crossings (hN : g_N E) (hw : Axs E a D r L im tc i s w) (x so f m : Int32) (hx : shN x i) : g_Ci E mX7_crossings (d + 4) [.ref (a 0), .int x, .int so, .int f, .int m] w (fun z w' => z = (sXs D L s x so f m).1 ∧ Axs E a (sXs D L s x so f m).2.1 r (sXs D L s x so f m).2.2 im tc i s w') := by
  have hw' := hw
  obtain ⟨hi, w1, ws, hA, hs, rfl⟩ := hw
  have hs' := hs
  have hA' := hA
  obtain ⟨hV, it, rfl, hit⟩ := hs
  have eV := t_nI (n := s.2.length) (by omega)
  have hit' : ∀ i, i < s.2.length → it i = s.2.getD i 0 := fun i h => hit i _ (getD_ai h)
  obtain ⟨kd, pc, nb, hs0, od, pl, ov, on, ot, be, rfl, hD, j1, j2, j3, j4, j5, hL, hpk, hrw⟩ := hA.lit
  refine g_enterI hN.1 (by decide) [some (.ref (a 0)), some (.int x), some (.int so), some (.int f), some (.int m), none, none, none, none] rfl (Nat.le_of_ble_eq_true rfl) (fun A Q hQ => ?_)
  have tcm13 := tc_m13; have tcm12 := tc_m12; have tcm11 := tc_m11; have tcm2 := tc_m2; have tcm1 := tc_m1; have tc0 := tc_0; have tc1 := tc_1; have tc2 := tc_2; have tc20 := tc_20
  have z0 := g_biz (p := (0 ≤ x.toInt ∧ x.toInt ≤ 3))
  have z1 := g_biz (p := ((0 : Int32).toInt ≤ so.toInt ∧ so.toInt ≤ (2 : Int32).toInt))
  have z2 := g_biz (p := ((0 : Int32).toInt ≤ m.toInt ∧ m.toInt ≤ (20 : Int32).toInt))
  unfold sXs at hQ
  refine g_iload1 dX7_crossings_0 (r_X7_isSheet hN mv_X7_269 dX7_crossings_1 (Nat.le_of_ble_eq_true rfl) (Nat.le_of_ble_eq_true rfl) rfl (g_if_eq (tgt := 27) dX7_crossings_4 (by decide) (fun h4 => g_bipush kb_m2 dX7_crossings_27 (g_iret rfl dX7_crossings_29 (Nat.le_of_ble_eq_true rfl) (Nat.le_of_ble_eq_true rfl) ?q29)) (fun h4 => g_iload2 dX7_crossings_7 (g_iconst ki_0 dX7_crossings_8 (g_iconst ki_2 dX7_crossings_9 (r_X7_isWithin hN mv_X7_100 dX7_crossings_10 (Nat.le_of_ble_eq_true rfl) (Nat.le_of_ble_eq_true rfl) rfl (g_if_eq (tgt := 27) dX7_crossings_13 (by decide) (fun h13 => g_bipush kb_m2 dX7_crossings_27 (g_iret rfl dX7_crossings_29 (Nat.le_of_ble_eq_true rfl) (Nat.le_of_ble_eq_true rfl) ?q29')) (fun h13 => g_iload4 dX7_crossings_16 (g_iconst ki_0 dX7_crossings_18 (g_bipush kb_20 dX7_crossings_19 (r_X7_isWithin hN mv_X7_100 dX7_crossings_21 (Nat.le_of_ble_eq_true rfl) (Nat.le_of_ble_eq_true rfl) rfl (g_if_ne (tgt := 30) dX7_crossings_24 (by decide) (fun h24 => g_aload0 dX7_crossings_30 (g_get fl_X7_65 0 rfl rfl dX7_crossings_31 (g_iload1 dX7_crossings_34 (g_aaload 2 13 rfl rfl dX7_crossings_35 ?b35 (?a35))))) (fun h24 => g_bipush kb_m2 dX7_crossings_27 (g_iret rfl dX7_crossings_29 (Nat.le_of_ble_eq_true rfl) (Nat.le_of_ble_eq_true rfl) ?q29''))))))))))))))
  case q29 => rw [if_pos (by omega)] at hQ; exact hQ _ _ ⟨rfl, hw'⟩
  case q29' => rw [if_pos (by omega)] at hQ; exact hQ _ _ ⟨rfl, hw'⟩
  case q29'' => rw [if_pos (by omega)] at hQ; exact hQ _ _ ⟨rfl, hw'⟩
  all_goals rw [if_neg (by omega)] at hQ
  case b35 => exact ⟨by omega, by show _ < (4 : Int); omega⟩
  case a35 =>
    rw [hx (by omega)]
    dsimp only [va_rf]
    refine g_astore5 dX7_crossings_36 rfl rfl (g_aload5 dX7_crossings_38 (g_get fl_X7_275 14 rfl rfl dX7_crossings_40 (g_iconst ki_m1 dX7_crossings_43 (g_icmp_eq (tgt := 59) dX7_crossings_44 (by decide) (fun h44 => g_aload5 dX7_crossings_59 (g_get fl_X7_275 14 rfl rfl dX7_crossings_61 (g_iconst ki_m1 dX7_crossings_64 (g_icmp_ne (tgt := 71) dX7_crossings_65 (by decide) (fun h65 => g_iconst ki_0 dX7_crossings_71 (g_istore6 dX7_crossings_72 rfl rfl (g_iconst ki_0 dX7_crossings_74 (g_istore7 dX7_crossings_75 rfl rfl (?s77_2))))) (fun h65 => g_bipush kb_m11 dX7_crossings_68 (g_iret rfl dX7_crossings_70 (Nat.le_of_ble_eq_true rfl) (Nat.le_of_ble_eq_true rfl) ?q70_2)))))) (fun h44 => g_aload5 dX7_crossings_47 (g_get fl_X7_275 14 rfl rfl dX7_crossings_49 (g_iload2 dX7_crossings_52 (g_icmp_eq (tgt := 59) dX7_crossings_53 (by decide) (fun h53 => g_aload5 dX7_crossings_59 (g_get fl_X7_275 14 rfl rfl dX7_crossings_61 (g_iconst ki_m1 dX7_crossings_64 (g_icmp_ne (tgt := 71) dX7_crossings_65 (by decide) (fun h65 => g_iconst ki_0 dX7_crossings_71 (g_istore6 dX7_crossings_72 rfl rfl (g_iconst ki_0 dX7_crossings_74 (g_istore7 dX7_crossings_75 rfl rfl (?s77_2'))))) (fun h65 => g_bipush kb_m11 dX7_crossings_68 (g_iret rfl dX7_crossings_70 (Nat.le_of_ble_eq_true rfl) (Nat.le_of_ble_eq_true rfl) ?q70_2')))))) (fun h53 => g_bipush kb_m13 dX7_crossings_56 (g_iret rfl dX7_crossings_58 (Nat.le_of_ble_eq_true rfl) (Nat.le_of_ble_eq_true rfl) ?q58_2))))))))))
    case q58_2 => rw [if_neg (by omega), if_pos (by omega)] at hQ; exact hQ _ _ ⟨rfl, hw'⟩
    case q70_2 => rw [if_pos (by omega)] at hQ; exact hQ _ _ ⟨rfl, hw'⟩
    case q70_2' => rw [if_pos (by omega)] at hQ; exact hQ _ _ ⟨rfl, hw'⟩
    all_goals try (exfalso; omega)
    all_goals rw [if_neg (by omega), if_neg (by omega)] at hQ
    all_goals
      generalize hF : xsF s.2 f m.toInt.toNat 0 0 D L = F at hQ
      have loop : ∀ t i' (c : Int32) D L w1 l8, i' + t = m.toInt.toNat → xsF s.2 f t i' c D L = F → Apk E a D r L im tc w1 → G E mX7_crossings (d + 4) 0 0 A Q 0 0 77 [some (.ref (a 0)), some (.int x), some (.int so), some (.int f), some (.int m), some (.ref (a (78 + 2 * i))), some (.int c), some (.int (nI i')), l8] [] (w1 ++ ((a 50, raS E a) :: shtW E a (78 + 2 * i) it s.1 (nI s.2.length))) := by
        clear hA hA' hD j1 j2 j3 j4 j5 hL hpk hrw hF hw'
        intro t
        induction t with
        | zero =>
          intro i' c D L w1 l8 hi' hF hA
          have hA' := hA
          obtain ⟨kd, pc, nb, hs0, od, pl, ov, on, ot, be, rfl, hD, -⟩ := hA.lit
          have ei := t_nI (n := i') (by omega)
          rw [xsF] at hF
          subst hF
          refine g_iload7 dX7_crossings_77 (g_iload4 dX7_crossings_79 (g_icmp_ge (tgt := 151) dX7_crossings_81 (by decide) (fun h81 => g_iload6 dX7_crossings_151 (g_iret rfl dX7_crossings_153 (Nat.le_of_ble_eq_true rfl) (Nat.le_of_ble_eq_true rfl) ?q153_3)) (fun h81 => ?s84_3)))
          case s84_3 => omega
          case q153_3 => exact hQ _ _ ⟨rfl, hi, _, _, hA', hs', rfl⟩
        | succ t ih =>
          intro i' c D L w1 l8 hi' hF hA
          have hA' := hA
          obtain ⟨kd, pc, nb, hs0, od, pl, ov, on, ot, be, rfl, hD, -⟩ := hA.lit
          have ei := t_nI (n := i') (by omega)
          rw [xsF] at hF
          generalize hat : f + 2 * nI i' = at' at hF
          have z3 := g_biz (p := (0 ≤ at'.toInt ∧ at'.toInt < (nI s.2.length).toInt))
          have z4 := g_biz (p := (0 ≤ (at' + 1).toInt ∧ (at' + 1).toInt < (nI s.2.length).toInt))
          refine g_iload7 dX7_crossings_77 (g_iload4 dX7_crossings_79 (g_icmp_ge (tgt := 151) dX7_crossings_81 (by decide) (fun h81 => ?s151_4) (fun h81 => g_iload3 dX7_crossings_84 (g_iconst ki_2 dX7_crossings_85 (g_iload7 dX7_crossings_86 (g_imul dX7_crossings_88 (g_iadd dX7_crossings_89 (g_istore8 dX7_crossings_90 rfl rfl (g_aload5 dX7_crossings_92 (g_iload8 dX7_crossings_94 (?c96_4)))))))))))
          case s151_4 => omega
          case c96_4 =>
            rw [hat]
            refine g_V1i dX7_crossings_96 mv_X7_278 14 rfl rfl rfl (Nat.le_of_ble_eq_true rfl) (Nat.le_of_ble_eq_true rfl) ((c_holds hN (by omega) at').frame (X := ((a 0, dolO a im tc) :: (packW E a 1 kd pc nb hs0 od (nI D.1.length) (nI r) ++ rowW E a 7 pl ov on ot be (nI L.length))) ++ [(a 50, raS E a)]) (Y := [])) (fun r1 w1 hq => ?_)
            obtain ⟨w3, ⟨rfl, rfl⟩, rfl⟩ := hq
            refine g_if_eq (tgt := 114) dX7_crossings_99 (by decide) (fun h99 => g_bipush kb_m12 dX7_crossings_114 (g_iret rfl dX7_crossings_116 (Nat.le_of_ble_eq_true rfl) (Nat.le_of_ble_eq_true rfl) ?q116_5)) (fun h99 => g_aload5 dX7_crossings_102 (g_iload8 dX7_crossings_104 (g_iconst ki_1 dX7_crossings_106 (g_iadd dX7_crossings_107 (?c108_5)))))
            case q116_5 =>
              rw [if_neg (by omega)] at hF
              subst hF
              exact hQ _ _ ⟨rfl, hi, _, _, hA', hs', rfl⟩
            case c108_5 =>
              refine g_V1i dX7_crossings_108 mv_X7_278 14 rfl rfl rfl (Nat.le_of_ble_eq_true rfl) (Nat.le_of_ble_eq_true rfl) ((c_holds hN (by omega) (at' + 1)).frame (X := ((a 0, dolO a im tc) :: (packW E a 1 kd pc nb hs0 od (nI D.1.length) (nI r) ++ rowW E a 7 pl ov on ot be (nI L.length))) ++ [(a 50, raS E a)]) (Y := [])) (fun r1 w1 hq => ?_)
              obtain ⟨w3, ⟨rfl, rfl⟩, rfl⟩ := hq
              refine g_if_ne (tgt := 117) dX7_crossings_111 (by decide) (fun h111 => g_aload0 dX7_crossings_117 (g_aload5 dX7_crossings_118 (g_get fl_X7_219 14 rfl rfl dX7_crossings_120 (g_iload8 dX7_crossings_123 (g_iaload 15 rfl dX7_crossings_125 ?b125_6 (g_aload5 dX7_crossings_126 (g_get fl_X7_219 14 rfl rfl dX7_crossings_128 (g_iload8 dX7_crossings_131 (g_iconst ki_1 dX7_crossings_133 (g_iadd dX7_crossings_134 (g_iaload 15 rfl dX7_crossings_135 ?b135_6 (?c136_6)))))))))))) (fun h111 => g_bipush kb_m12 dX7_crossings_114 (g_iret rfl dX7_crossings_116 (Nat.le_of_ble_eq_true rfl) (Nat.le_of_ble_eq_true rfl) ?q116_6))
              case q116_6 =>
                rw [if_neg (by omega)] at hF
                subst hF
                exact hQ _ _ ⟨rfl, hi, _, _, hA', hs', rfl⟩
              case b125_6 => exact ⟨by omega, by show _ < (40 : Int); omega⟩
              case b135_6 => exact ⟨by omega, by show _ < (40 : Int); omega⟩
              case c136_6 =>
                rw [if_pos (by omega)] at hF
                rw [hit' _ (by omega), hit' _ (by omega)]
                refine g_V2i dX7_crossings_136 mv_X7_294 0 rfl rfl rfl (Nat.le_of_ble_eq_true rfl) (Nat.le_of_ble_eq_true rfl) ((c_cross hN hA' _ _).frame (X := []) (Y := (a 50, raS E a) :: shtW E a (78 + 2 * i) it s.1 (nI s.2.length))) (fun r1 w1 hq => ?_)
                obtain ⟨w3, ⟨rfl, hA3⟩, rfl⟩ := hq
                have hA3' := hA3
                obtain ⟨kd3, pc3, nb3, hs3, od3, pl3, ov3, on3, ot3, be3, rfl, -⟩ := hA3.lit
                refine g_if_le (tgt := 145) dX7_crossings_139 (by decide) (fun h139 => g_iinc7 ki_1 dX7_crossings_145 rfl rfl (g_goto (tgt := 77) dX7_crossings_148 (by decide) (?s77_7))) (fun h139 => g_iinc6 ki_1 dX7_crossings_142 rfl rfl (g_iinc7 ki_1 dX7_crossings_145 rfl rfl (g_goto (tgt := 77) dX7_crossings_148 (by decide) (?s77_7'))))
                case s77_7 =>
                  rw [nI_1]
                  rw [if_neg (by omega)] at hF
                  exact ih (i' + 1) _ _ _ _ _ (by omega) hF hA3'
                case s77_7' =>
                  rw [nI_1]
                  rw [if_pos (by omega)] at hF
                  exact ih (i' + 1) _ _ _ _ _ (by omega) hF hA3'
      exact loop m.toInt.toNat 0 0 D L _ _ (by omega) hF hA'
end S53
