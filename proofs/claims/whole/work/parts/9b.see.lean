section S9b
variable {E : GE} {d : Nat} {a : Nat → Nat} {im tc rr so m : Int32} {n k kk : Nat} {it : Nat → Int32} {Gl : List Nat} {al : Bool}
set_option maxRecDepth 20000 in
set_option maxHeartbeats 400000 in
theorem e_rows (hN : g_N E) (hn : n ≤ 6) (hk4 : kk ≤ 4) (hG : Gl.length = n) (hgb : ∀ x ∈ Gl, x < 1000) (hLG : Lst Gl it) : ∀ (r : Nat) (O P : List Nat) (to tp : Nat → Int32), P.length + r = kk → O.length = n → (∀ x ∈ O, x < 1000) → (∀ x ∈ P, x < 6) → Lst O to → Lst P tp → g_Ci E mX7_rowsLeadingTo (d + r + 4) [.ref (a 0), .ref (a k), .int (nI P.length), .int (nI kk), .int (g_bi (al = true))] (seW E a im tc (nI n) rr k it so m to tp) (fun z w' => z = nI (rtF n Gl al r O P) ∧ ∃ to' tp', w' = seW E a im tc (nI n) rr k it so m to' tp' ∧ Lst O to' ∧ Lst P tp') := by
  have en := t_nI (n := n) (by omega)
  have ek := t_nI (n := kk) (by omega)
  have hza := g_biz (p := (al = true))
  intro r
  induction r with
  | zero =>
    intro O P to tp hP hO hob hpb hLO hLP
    have eP := t_nI (n := P.length) (by omega)
    have hz := g_biz (p := (O = Gl))
    refine g_enterI hN.1 (by decide) [some (.ref (a 0)), some (.ref (a k)), some (.int (nI P.length)), some (.int (nI kk)), some (.int (g_bi (al = true))), none, none, none] rfl (Nat.le_of_ble_eq_true rfl) (fun A Q hQ => ?_)
    have tc0 := tc_0; have tc1 := tc_1; have tc2 := tc_2; have tc4 := tc_4
    have tr : G E mX7_rowsLeadingTo (d + 0 + 4) 0 0 A Q 0 0 10 [some (.ref (a 0)), some (.ref (a k)), some (.int (nI P.length)), some (.int (nI kk)), some (.int (g_bi (al = true))), none, none, none] [] (seW E a im tc (nI n) rr k it so m to tp) := by
      refine g_aload0 dX7_rowsLeadingTo_10 (g_aload1 dX7_rowsLeadingTo_11 (?c12))
      refine g_V1i dX7_rowsLeadingTo_12 mv_X7_333 0 rfl rfl rfl (Nat.le_of_ble_eq_true rfl) (Nat.le_of_ble_eq_true rfl) (e_isTrial (d := d + 2) hN hn hO hG hob hgb hLO hLG) (fun z1_ w1 hq => ?_)
      obtain ⟨rfl, rfl⟩ := hq
      refine g_if_eq (tgt := 22) dX7_rowsLeadingTo_15 (by decide) (fun h15 => g_iconst ki_0 dX7_rowsLeadingTo_22 (g_iret rfl dX7_rowsLeadingTo_23 (Nat.le_of_ble_eq_true rfl) (Nat.le_of_ble_eq_true rfl) ?q23_2)) (fun h15 => g_iconst ki_1 dX7_rowsLeadingTo_18 (g_goto (tgt := 23) dX7_rowsLeadingTo_19 (by decide) (g_iret rfl dX7_rowsLeadingTo_23 (Nat.le_of_ble_eq_true rfl) (Nat.le_of_ble_eq_true rfl) ?q23_2')))
      case q23_2 => exact hQ _ _ ⟨by unfold rtF; rw [if_neg (hz.mp h15)]; rfl, to, tp, rfl, hLO, hLP⟩
      case q23_2' =>
        have : O = Gl := by
          by_cases q : O = Gl
          · exact q
          · exact absurd (hz.mpr q) h15
        exact hQ _ _ ⟨by unfold rtF; rw [if_pos this]; rfl, to, tp, rfl, hLO, hLP⟩
    refine g_iload2 dX7_rowsLeadingTo_0 (g_iload3 dX7_rowsLeadingTo_1 (g_icmp_ge (tgt := 10) dX7_rowsLeadingTo_2 (by decide) (fun h2 => ?s10_3) (fun h2 => ?s5_3)))
    case s10_3 => exact tr
    case s5_3 => omega
  | succ r ih =>
    intro O P to tp hP hO hob hpb hLO hLP
    have eP := t_nI (n := P.length) (by omega)
    refine g_enterI hN.1 (by decide) [some (.ref (a 0)), some (.ref (a k)), some (.int (nI P.length)), some (.int (nI kk)), some (.int (g_bi (al = true))), none, none, none] rfl (Nat.le_of_ble_eq_true rfl) (fun A Q hQ => ?_)
    have tc0 := tc_0; have tc1 := tc_1; have tc2 := tc_2; have tc4 := tc_4
    generalize hSF : (fun (acc p : Nat) => acc + (if (al && wmF P p P.length) = true then 1 else 2) * rtF n Gl al r (swapL O p) (P ++ [p])) = SF
    have loop : ∀ u p to tp acc l7, p + u = n - 1 → Lst O to → Lst P tp → acc = (List.range p).foldl SF 0 → G E mX7_rowsLeadingTo (d + (r + 1) + 4) 0 0 A Q 0 0 30 [some (.ref (a 0)), some (.ref (a k)), some (.int (nI P.length)), some (.int (nI kk)), some (.int (g_bi (al = true))), some (.int (nI acc)), some (.int (nI p)), l7] [] (seW E a im tc (nI n) rr k it so m to tp) := by
      intro u
      induction u with
      | zero =>
        intro p to tp acc l7 hp h1 h2 h3
        have ep : (nI p + 1).toInt = (p : Int) + 1 := by rw [nI_1, t_nI (by omega)]; omega
        refine g_iload6 dX7_rowsLeadingTo_30 (g_iconst ki_1 dX7_rowsLeadingTo_32 (g_iadd dX7_rowsLeadingTo_33 (g_aload0 dX7_rowsLeadingTo_34 (g_get fl_X7_10 0 rfl rfl dX7_rowsLeadingTo_35 (g_get fl_X7_110 1 rfl rfl dX7_rowsLeadingTo_38 (g_icmp_ge (tgt := 111) dX7_rowsLeadingTo_41 (by decide) (fun h41 => g_iload5 dX7_rowsLeadingTo_111 (g_iret rfl dX7_rowsLeadingTo_113 (Nat.le_of_ble_eq_true rfl) (Nat.le_of_ble_eq_true rfl) ?q113_4)) (fun h41 => ?s44_4)))))))
        case s44_4 => omega
        case q113_4 => exact hQ _ _ ⟨by rw [rtF, hSF, show n - 1 = p by omega, ← h3], to, tp, rfl, h1, h2⟩
      | succ u ihu =>
        intro p to tp acc l7 hp h1 h2 h3
        have ep : (nI p + 1).toInt = (p : Int) + 1 := by rw [nI_1, t_nI (by omega)]; omega
        have ep0 := t_nI (n := p) (by omega)
        have hsf : (List.range (p + 1)).foldl SF 0 = acc + (if (al && wmF P p P.length) = true then 1 else 2) * rtF n Gl al r (swapL O p) (P ++ [p]) := by
          rw [List.range_succ, List.foldl_append, ← h3, ← hSF]; rfl
        have hPl : (P ++ [p]).length = P.length + 1 := by rw [List.length_append]; rfl
        have hsp := swapL_perm O p
        have body : ∀ sN : Nat, sN = (if (al && wmF P p P.length) = true then 1 else 2) → G E mX7_rowsLeadingTo (d + (r + 1) + 4) 0 0 A Q 0 0 64 [some (.ref (a 0)), some (.ref (a k)), some (.int (nI P.length)), some (.int (nI kk)), some (.int (g_bi (al = true))), some (.int (nI acc)), some (.int (nI p)), l7] [.int (nI sN)] (seW E a im tc (nI n) rr k it so m to tp) := by
          intro sN hs
          rw [← hs] at hsf
          refine g_istore7 dX7_rowsLeadingTo_64 rfl rfl (g_aload0 dX7_rowsLeadingTo_66 (g_get fl_X7_72 0 rfl rfl dX7_rowsLeadingTo_67 (g_iload2 dX7_rowsLeadingTo_70 (g_iload6 dX7_rowsLeadingTo_71 (g_iastore 5 rfl dX7_rowsLeadingTo_73 ?b73_5 (g_aload0 dX7_rowsLeadingTo_74 (g_iload6 dX7_rowsLeadingTo_75 (?c77_5))))))))
          case b73_5 => exact ⟨by omega, by show _ < (4 : Int); omega⟩
          case c77_5 =>
            rw [eP, Int.toNat_natCast]
            dsimp only [List.set]
            refine g_V1v dX7_rowsLeadingTo_77 mv_X7_340 0 rfl rfl rfl (Nat.le_of_ble_eq_true rfl) (Nat.le_of_ble_eq_true rfl) (e_changeTrial (d := d + r + 3) (rr := rr) (n := n) (k := k) (it := it) (so := so) (m := m) (tp := upd tp P.length (nI p)) hN (i := p) (by omega)) (fun w1 hq => ?_)
            subst hq
            refine g_iload5 dX7_rowsLeadingTo_80 (g_iload7 dX7_rowsLeadingTo_82 (g_aload0 dX7_rowsLeadingTo_84 (g_aload1 dX7_rowsLeadingTo_85 (g_iload2 dX7_rowsLeadingTo_86 (g_iconst ki_1 dX7_rowsLeadingTo_87 (g_iadd dX7_rowsLeadingTo_88 (g_iload3 dX7_rowsLeadingTo_89 (g_iload4 dX7_rowsLeadingTo_90 (?c92_6)))))))))
            rw [nI_1, ← hPl]
            refine g_V4i dX7_rowsLeadingTo_92 mv_X7_231 0 rfl rfl rfl (Nat.le_of_ble_eq_true rfl) (Nat.le_of_ble_eq_true rfl) (ih (swapL O p) (P ++ [p]) (swG to p) (upd tp P.length (nI p)) (by omega) (by rw [swapL_len]; exact hO) (fun x hx => hob x (hsp.mem_iff.mp hx)) (fun x hx => by rcases List.mem_append.mp hx with q | q; exact hpb x q; rw [List.mem_singleton.mp q]; omega) (h1.swG (by omega)) (h2.push p)) (fun z1_ w1 hq => ?_)
            obtain ⟨rfl, to2, tp2, rfl, g1, g2⟩ := hq
            refine g_imul dX7_rowsLeadingTo_95 (g_iadd dX7_rowsLeadingTo_96 (g_istore5 dX7_rowsLeadingTo_97 rfl rfl (g_aload0 dX7_rowsLeadingTo_99 (g_iload6 dX7_rowsLeadingTo_100 (?c102_7)))))
            refine g_V1v dX7_rowsLeadingTo_102 mv_X7_340 0 rfl rfl rfl (Nat.le_of_ble_eq_true rfl) (Nat.le_of_ble_eq_true rfl) (e_changeTrial (d := d + r + 3) (rr := rr) (n := n) (k := k) (it := it) (so := so) (m := m) (tp := tp2) hN (i := p) (by omega)) (fun w1 hq => ?_)
            subst hq
            refine g_iinc6 ki_1 dX7_rowsLeadingTo_105 rfl rfl (g_goto (tgt := 30) dX7_rowsLeadingTo_108 (by decide) (?s30_8))
            rw [nI_1, pk_mul, nI_add, ← hsf]
            refine ihu (p + 1) _ tp2 _ _ (by omega) ?_ g2.pre rfl
            have := g1.swG (p := p) (by rw [swapL_len]; omega)
            rw [swapL_inv] at this
            exact this
        have hwz := g_biz (p := (wmF P p P.length = true))
        refine g_iload6 dX7_rowsLeadingTo_30 (g_iconst ki_1 dX7_rowsLeadingTo_32 (g_iadd dX7_rowsLeadingTo_33 (g_aload0 dX7_rowsLeadingTo_34 (g_get fl_X7_10 0 rfl rfl dX7_rowsLeadingTo_35 (g_get fl_X7_110 1 rfl rfl dX7_rowsLeadingTo_38 (g_icmp_ge (tgt := 111) dX7_rowsLeadingTo_41 (by decide) (fun h41 => ?s111_9) (fun h41 => g_iload4 dX7_rowsLeadingTo_44 (g_if_eq (tgt := 63) dX7_rowsLeadingTo_46 (by decide) (fun h46 => g_iconst ki_2 dX7_rowsLeadingTo_63 (?s64_9)) (fun h46 => g_aload0 dX7_rowsLeadingTo_49 (g_iload6 dX7_rowsLeadingTo_50 (g_iload2 dX7_rowsLeadingTo_52 (?c53_9))))))))))))
        case s111_9 => omega
        case s64_9 =>
          have hal : al = false := by
            cases hh : al with
            | false => rfl
            | true => exact absurd hh (hza.mp h46)
          exact body 2 (by rw [hal]; rfl)
        case c53_9 =>
          have hal : al = true := by
            by_cases q : al = true
            · exact q
            · exact absurd (hza.mpr q) h46
          refine g_V2i dX7_rowsLeadingTo_53 mv_X7_337 0 rfl rfl rfl (Nat.le_of_ble_eq_true rfl) (Nat.le_of_ble_eq_true rfl) (e_wouldMeet (d := d + r + 2) hN (by omega) h2 (by omega) hpb) (fun z1_ w1 hq => ?_)
          obtain ⟨rfl, rfl⟩ := hq
          refine g_if_eq (tgt := 63) dX7_rowsLeadingTo_56 (by decide) (fun h56 => g_iconst ki_2 dX7_rowsLeadingTo_63 (?s64_10)) (fun h56 => g_iconst ki_1 dX7_rowsLeadingTo_59 (g_goto (tgt := 64) dX7_rowsLeadingTo_60 (by decide) (?s64_10')))
          case s64_10 => exact body 2 (by rw [hal, Bool.true_and, if_neg (hwz.mp h56)])
          case s64_10' =>
            have hw : wmF P p P.length = true := by
              by_cases q : wmF P p P.length = true
              · exact q
              · exact absurd (hwz.mpr q) h56
            exact body 1 (by rw [hal, hw]; rfl)
    refine g_iload2 dX7_rowsLeadingTo_0 (g_iload3 dX7_rowsLeadingTo_1 (g_icmp_ge (tgt := 10) dX7_rowsLeadingTo_2 (by decide) (fun h2 => ?s10_11) (fun h2 => g_iload2 dX7_rowsLeadingTo_5 (g_iconst ki_4 dX7_rowsLeadingTo_6 (g_icmp_lt (tgt := 24) dX7_rowsLeadingTo_7 (by decide) (fun h7 => g_iconst ki_0 dX7_rowsLeadingTo_24 (g_istore5 dX7_rowsLeadingTo_25 rfl rfl (g_iconst ki_0 dX7_rowsLeadingTo_27 (g_istore6 dX7_rowsLeadingTo_28 rfl rfl (?s30_11))))) (fun h7 => ?s10_11'))))))
    case s10_11 => omega
    case s10_11' => omega
    case s30_11 => exact loop (n - 1) 0 to tp 0 _ (by omega) hLO hLP rfl
end S9b
