/-! the model: the image -/
def MIm (v : Nat → Int32) (f : Nat → Nat → Int32) (D2 : Dg) (r2 : Nat) (L2 : List Cr) : Prop := v 49 = nI D2.1.length ∧ v 50 = nI L2.length ∧ v 51 = nI r2 ∧ L2.length ≤ 40 ∧ Lst D2.2.2.2.2 (f 47) ∧ Lst D2.2.1 (fun i => f 47 (6 + i)) ∧ Lst D2.2.2.1 (fun i => f 47 (12 + i)) ∧ Lst D2.2.2.2.1 (fun i => f 47 (18 + i)) ∧ Lst (L2.map (fun c => c.1)) (f 48) ∧ Lst (L2.map (fun c => c.2.1)) (fun i => f 48 (40 + i))
theorem MIm.ag {S1 S2 : List Nat} {v v' : Nat → Int32} {f f' : Nat → Nat → Int32} {D : Dg} {r : Nat} {L : List Cr} (h : MIm v f D r L) (h1 : agV S1 v v') (h2 : agF S2 f f') (q1 : S1.contains 49 = false) (q2 : S1.contains 50 = false) (q3 : S1.contains 51 = false) (q4 : S2.contains 47 = false) (q5 : S2.contains 48 = false) : MIm v' f' D r L := by
  unfold MIm
  rw [h1.at 49 q1, h1.at 50 q2, h1.at 51 q3, h2.at 47 q4, h2.at 48 q5]
  exact h
section S99c
variable {E : GE} {d : Nat} {b : Nat → Nat} {v : Nat → Int32} {t : Int64} {f : Nat → Nat → Int32} {D D2 : Dg} {L L2 : List Cr} {r r2 : Nat}
set_option maxRecDepth 20000 in
set_option maxHeartbeats 2000000 in
theorem c_X8_image (hN : g_N E) (hD : dgOK D) (hM : MD v f D) (hL : ML v f L) (h4 : v 4 = nI r) : g_Ci E mX8_image (d + 1) [.ref (b 0)] (mW E b v t f) (fun z w => z = nI D.1.length ∧ ∃ v' f', w = mW E b v' t f' ∧ agV [49, 50, 51] v v' ∧ agF [47, 48] f f' ∧ MIm v' f' D r L) := by
  obtain ⟨hn, l1, l2, l3, l4, b1, b2, b3, b4, b5, hnd⟩ := id hD
  obtain ⟨L1, L2, L3, L4⟩ := id hL
  refine g_enterI hN.1 (by decide) [some (.ref (b 0)), none] rfl (Nat.le_of_ble_eq_true rfl) (fun A Q hQ => ?_)
  have tc0 := tc_0; have tc1 := tc_1; have tc6 := tc_6; have tc12 := tc_12; have tc18 := tc_18; have tc40 := tc_40
  have ph2 : ∀ u i f2, i + u = 40 → agF [47, 48] f f2 → (∀ j, j < 6 → f2 47 j = f 11 j ∧ f2 47 (6 + j) = f 8 j ∧ f2 47 (12 + j) = f 9 j ∧ f2 47 (18 + j) = f 10 j) → (∀ j, j < i → f2 48 j = f 13 j ∧ f2 48 (40 + j) = f 14 j) → G E mX8_image (d + 1) 0 0 A Q 0 0 73 [some (.ref (b 0)), some (.int (nI i))] [] (mW E b v t f2) := by
    intro u
    induction u with
    | zero =>
      intro i f2 hi h1 h2 h3
      have ei := t_nI (n := i) (by omega)
      refine g_iload1 dX8_image_73 (g_bipush kb_40 dX8_image_74 (g_icmp_ge (tgt := 112) dX8_image_76 (by decide) (fun h76 => g_aload0 dX8_image_112 (g_aload0 dX8_image_113 (g_mget fl_X8_103 mg_12 dX8_image_114 (g_mput fl_X8_80 fp_7_49 ms_49 rfl rfl rfl dX8_image_117 (g_aload0 dX8_image_120 (g_aload0 dX8_image_121 (g_mget fl_X8_116 mg_15 dX8_image_122 (g_mput fl_X8_350 fp_7_50 ms_50 rfl rfl rfl dX8_image_125 (g_aload0 dX8_image_128 (g_aload0 dX8_image_129 (g_mget fl_X8_252 mg_4 dX8_image_130 (g_mput fl_X8_353 fp_7_51 ms_51 rfl rfl rfl dX8_image_133 (g_aload0 dX8_image_136 (g_mget fl_X8_103 mg_12 dX8_image_137 (g_iret rfl dX8_image_140 (Nat.le_of_ble_eq_true rfl) (Nat.le_of_ble_eq_true rfl) ?q140))))))))))))))) (fun h76 => ?s79)))
      case s79 => omega
      case q140 =>
        have lk : ∀ {l : List Nat} {F G' : Nat → Int32}, Lst l F → l.length ≤ 6 → (∀ j, j < 6 → G' j = F j) → Lst l G' := by
          intro l F G' h hl he j x hj
          have := (List.getElem?_eq_some_iff.mp hj).1
          rw [he j (by omega)]; exact h j x hj
        refine hQ _ _ ⟨?_, _, f2, rfl, ((agV.rf.up 49 _ rfl).up 50 _ rfl).up 51 _ rfl, h1, ?_, ?_, ?_, L1, ?_, ?_, ?_, ?_, ?_, ?_⟩
        · rw [upd_o (by decide), upd_o (by decide), upd_o (by decide)]; exact hM.1
        · rw [upd_o (by decide), upd_o (by decide), upd_s]; exact hM.1
        · rw [upd_o (by decide), upd_s, upd_o (by decide)]; exact L2
        · rw [upd_s, upd_o (by decide), upd_o (by decide)]; exact h4
        · exact lk hM.2.2.2.2.2 (by omega) (fun j hj => (h2 j hj).1)
        · exact lk hM.2.2.1 (by omega) (fun j hj => (h2 j hj).2.1)
        · exact lk hM.2.2.2.1 (by omega) (fun j hj => (h2 j hj).2.2.1)
        · exact lk hM.2.2.2.2.1 (by omega) (fun j hj => (h2 j hj).2.2.2)
        · intro j x hj
          have := (List.getElem?_eq_some_iff.mp hj).1
          rw [List.length_map] at this
          rw [(h3 j (by omega)).1]; exact L3 j x hj
        · intro j x hj
          have := (List.getElem?_eq_some_iff.mp hj).1
          rw [List.length_map] at this
          show f2 48 (40 + j) = _
          rw [(h3 j (by omega)).2]; exact L4 j x hj
    | succ u ih =>
      intro i f2 hi h1 h2 h3
      have ei := t_nI (n := i) (by omega)
      have e40 : (40 + nI i).toInt = ((40 + i : Nat) : Int) := by rw [show (40 : Int32) = nI 40 from rfl, nI_add, t_nI (by omega)]
      refine g_iload1 dX8_image_73 (g_bipush kb_40 dX8_image_74 (g_icmp_ge (tgt := 112) dX8_image_76 (by decide) (fun h76 => ?s112_2) (fun h76 => g_aload0 dX8_image_79 (g_mget fl_X8_77 mg_48 dX8_image_80 (g_iload1 dX8_image_83 (g_aload0 dX8_image_84 (g_mget fl_X8_38 mg_13 dX8_image_85 (g_iload1 dX8_image_88 (g_mia ma_13 dX8_image_89 ?b89_2 (g_mis ma_48 mas_48 dX8_image_90 ?b90_2 (g_aload0 dX8_image_91 (g_mget fl_X8_77 mg_48 dX8_image_92 (g_bipush kb_40 dX8_image_95 (g_iload1 dX8_image_97 (g_iadd dX8_image_98 (g_aload0 dX8_image_99 (g_mget fl_X8_41 mg_14 dX8_image_100 (g_iload1 dX8_image_103 (g_mia ma_14 dX8_image_104 ?b104_2 (g_mis ma_48 mas_48 dX8_image_105 ?b105_2 (g_iinc1 ki_1 dX8_image_106 rfl rfl (g_goto (tgt := 73) dX8_image_109 (by decide) (?s73_2)))))))))))))))))))))))
      case s112_2 => omega
      case s73_2 =>
        rw [e40, ei, Int.toNat_natCast, Int.toNat_natCast, nI_1, updA_o (show (14 : Nat) ≠ 48 by decide), updA_s, updA_2, h1.at 13 rfl, h1.at 14 rfl]
        refine ih (i + 1) _ (by omega) (h1.up 48 _ rfl) ?_ ?_
        · intro j hj
          rw [updA_o (by decide)]; exact h2 j hj
        · intro j hj
          rw [updA_s]
          by_cases hji : j = i
          · subst hji
            rw [upd_o (by omega), upd_s, upd_s]
            exact ⟨rfl, rfl⟩
          · rw [upd_o (by omega), upd_o (by omega), upd_o (by omega), upd_o (by omega)]
            exact h3 j (by omega)
      all_goals first | omega | (rw [e40]; show _ ∧ _ < (80 : Int); omega)
  have ph1 : ∀ u i f2, i + u = 6 → agF [47, 48] f f2 → (∀ j, j < i → f2 47 j = f 11 j ∧ f2 47 (6 + j) = f 8 j ∧ f2 47 (12 + j) = f 9 j ∧ f2 47 (18 + j) = f 10 j) → G E mX8_image (d + 1) 0 0 A Q 0 0 2 [some (.ref (b 0)), some (.int (nI i))] [] (mW E b v t f2) := by
    intro u
    induction u with
    | zero =>
      intro i f2 hi h1 h2
      have ei := t_nI (n := i) (by omega)
      have hi6 : i = 6 := by omega
      subst hi6
      refine g_iload1 dX8_image_2 (g_bipush kb_6 dX8_image_3 (g_icmp_ge (tgt := 71) dX8_image_5 (by decide) (fun h5 => g_iconst ki_0 dX8_image_71 (g_istore1 dX8_image_72 rfl rfl (?s73_3))) (fun h5 => ?s8_3)))
      case s8_3 => omega
      case s73_3 => exact ph2 40 0 f2 (by omega) h1 h2 (fun j hj => absurd hj (Nat.not_lt_zero j))
    | succ u ih =>
      intro i f2 hi h1 h2
      have ei := t_nI (n := i) (by omega)
      have e6 : (6 + nI i).toInt = ((6 + i : Nat) : Int) := by rw [show (6 : Int32) = nI 6 from rfl, nI_add, t_nI (by omega)]
      have e12 : (12 + nI i).toInt = ((12 + i : Nat) : Int) := by rw [show (12 : Int32) = nI 12 from rfl, nI_add, t_nI (by omega)]
      have e18 : (18 + nI i).toInt = ((18 + i : Nat) : Int) := by rw [show (18 : Int32) = nI 18 from rfl, nI_add, t_nI (by omega)]
      refine g_iload1 dX8_image_2 (g_bipush kb_6 dX8_image_3 (g_icmp_ge (tgt := 71) dX8_image_5 (by decide) (fun h5 => ?s71_4) (fun h5 => g_aload0 dX8_image_8 (g_mget fl_X8_74 mg_47 dX8_image_9 (g_iload1 dX8_image_12 (g_aload0 dX8_image_13 (g_mget fl_X8_35 mg_11 dX8_image_14 (g_iload1 dX8_image_17 (g_mia ma_11 dX8_image_18 ?b18_4 (g_mis ma_47 mas_47 dX8_image_19 ?b19_4 (g_aload0 dX8_image_20 (g_mget fl_X8_74 mg_47 dX8_image_21 (g_bipush kb_6 dX8_image_24 (g_iload1 dX8_image_26 (g_iadd dX8_image_27 (g_aload0 dX8_image_28 (g_mget fl_X8_26 mg_8 dX8_image_29 (g_iload1 dX8_image_32 (g_mia ma_8 dX8_image_33 ?b33_4 (g_mis ma_47 mas_47 dX8_image_34 ?b34_4 (g_aload0 dX8_image_35 (g_mget fl_X8_74 mg_47 dX8_image_36 (g_bipush kb_12 dX8_image_39 (g_iload1 dX8_image_41 (g_iadd dX8_image_42 (g_aload0 dX8_image_43 (g_mget fl_X8_29 mg_9 dX8_image_44 (g_iload1 dX8_image_47 (g_mia ma_9 dX8_image_48 ?b48_4 (g_mis ma_47 mas_47 dX8_image_49 ?b49_4 (g_aload0 dX8_image_50 (g_mget fl_X8_74 mg_47 dX8_image_51 (g_bipush kb_18 dX8_image_54 (g_iload1 dX8_image_56 (g_iadd dX8_image_57 (g_aload0 dX8_image_58 (g_mget fl_X8_32 mg_10 dX8_image_59 (g_iload1 dX8_image_62 (g_mia ma_10 dX8_image_63 ?b63_4 (g_mis ma_47 mas_47 dX8_image_64 ?b64_4 (g_iinc1 ki_1 dX8_image_65 rfl rfl (g_goto (tgt := 2) dX8_image_68 (by decide) (?s2_4)))))))))))))))))))))))))))))))))))))))))))
      case s71_4 => omega
      case s2_4 =>
        rw [e6, e12, e18, ei, Int.toNat_natCast, Int.toNat_natCast, Int.toNat_natCast, Int.toNat_natCast, nI_1]
        simp only [updA_2, updA_s, updA_o (show (8 : Nat) ≠ 47 by decide), updA_o (show (9 : Nat) ≠ 47 by decide), updA_o (show (10 : Nat) ≠ 47 by decide)]
        rw [h1.at 11 rfl, h1.at 8 rfl, h1.at 9 rfl, h1.at 10 rfl]
        refine ih (i + 1) _ (by omega) (h1.up 47 _ rfl) ?_
        intro j hj
        rw [updA_s]
        by_cases hji : j = i
        · subst hji
          refine ⟨?_, ?_, ?_, ?_⟩
          · rw [upd_o (by omega), upd_o (by omega), upd_o (by omega), upd_s]
          · rw [upd_o (by omega), upd_o (by omega), upd_s]
          · rw [upd_o (by omega), upd_s]
          · rw [upd_s]
        · obtain ⟨q1, q2, q3, q4⟩ := h2 j (by omega)
          refine ⟨?_, ?_, ?_, ?_⟩
          all_goals rw [upd_o (by omega), upd_o (by omega), upd_o (by omega), upd_o (by omega)]
          all_goals assumption
      all_goals first | omega | (rw [e6]; show _ ∧ _ < (24 : Int); omega) | (rw [e12]; show _ ∧ _ < (24 : Int); omega) | (rw [e18]; show _ ∧ _ < (24 : Int); omega)
  refine g_iconst ki_0 dX8_image_0 (g_istore1 dX8_image_1 rfl rfl (?s2_5))
  exact ph1 6 0 f (by omega) agF.rf (fun j hj => absurd hj (Nat.not_lt_zero j))
set_option maxRecDepth 20000 in
set_option maxHeartbeats 2000000 in
theorem c_X8_back0 (hN : g_N E) (h : v 49 = -1) : g_Ci E mX8_back (d + 1) [.ref (b 0)] (mW E b v t f) (fun z w => z = -3 ∧ w = mW E b v t f) := by
  have e : (v 49).toInt = -1 := by rw [h]; decide
  refine g_enterI hN.1 (by decide) [some (.ref (b 0)), none] rfl (Nat.le_of_ble_eq_true rfl) (fun A Q hQ => ?_)
  have tcm3 := tc_m3; have tcm1 := tc_m1; have tc0 := tc_0; have tc1 := tc_1; have tc6 := tc_6; have tc12 := tc_12; have tc18 := tc_18; have tc40 := tc_40
  refine g_aload0 dX8_back_0 (g_mget fl_X8_80 mg_49 dX8_back_1 (g_iconst ki_m1 dX8_back_4 (g_icmp_ne (tgt := 11) dX8_back_5 (by decide) (fun h5 => ?s11) (fun h5 => g_bipush kb_m3 dX8_back_8 (g_iret rfl dX8_back_10 (Nat.le_of_ble_eq_true rfl) (Nat.le_of_ble_eq_true rfl) ?q10)))))
  case s11 => omega
  case q10 => exact hQ _ _ ⟨rfl, rfl⟩
set_option maxRecDepth 20000 in
set_option maxHeartbeats 2000000 in
theorem c_X8_back (hN : g_N E) (hD2 : dgOK D2) (hI : MIm v f D2 r2 L2) (h7 : Lst D2.1 (f 7)) : g_Ci E mX8_back (d + 1) [.ref (b 0)] (mW E b v t f) (fun z w => z = nI D2.1.length ∧ ∃ v' f', w = mW E b v' t f' ∧ agV [4, 12, 15] v v' ∧ agF [8, 9, 10, 11, 13, 14] f f' ∧ MD v' f' D2 ∧ ML v' f' L2 ∧ v' 4 = nI r2) := by
  obtain ⟨hn, l1, l2, l3, l4, b1, b2, b3, b4, b5, hnd⟩ := id hD2
  obtain ⟨i1, i2, i3, i4, i5, i6, i7, i8, i9, i10⟩ := hI
  have e49 : (v 49).toInt = D2.1.length := by rw [i1, t_nI (by omega)]
  refine g_enterI hN.1 (by decide) [some (.ref (b 0)), none] rfl (Nat.le_of_ble_eq_true rfl) (fun A Q hQ => ?_)
  have tcm3 := tc_m3; have tcm1 := tc_m1; have tc0 := tc_0; have tc1 := tc_1; have tc6 := tc_6; have tc12 := tc_12; have tc18 := tc_18; have tc40 := tc_40
  have ph2 : ∀ u i f2, i + u = 40 → agF [8, 9, 10, 11, 13, 14] f f2 → (∀ j, j < D2.1.length → f2 11 j = f 47 j ∧ f2 8 j = f 47 (6 + j) ∧ f2 9 j = f 47 (12 + j) ∧ f2 10 j = f 47 (18 + j)) → (∀ j, j < i → f2 13 j = f 48 j ∧ f2 14 j = f 48 (40 + j)) → G E mX8_back (d + 1) 0 0 A Q 0 0 94 [some (.ref (b 0)), some (.int (nI i))] [] (mW E b (upd v 12 (v 49)) t f2) := by
    intro u
    induction u with
    | zero =>
      intro i f2 hi h1 h2 h3
      have ei := t_nI (n := i) (by omega)
      refine g_iload1 dX8_back_94 (g_bipush kb_40 dX8_back_95 (g_icmp_ge (tgt := 133) dX8_back_97 (by decide) (fun h97 => g_aload0 dX8_back_133 (g_aload0 dX8_back_134 (g_mget fl_X8_350 mg_50 dX8_back_135 (g_mput fl_X8_116 fp_7_15 ms_15 rfl rfl rfl dX8_back_138 (g_aload0 dX8_back_141 (g_aload0 dX8_back_142 (g_mget fl_X8_353 mg_51 dX8_back_143 (g_mput fl_X8_252 fp_7_4 ms_4 rfl rfl rfl dX8_back_146 (g_aload0 dX8_back_149 (g_mget fl_X8_103 mg_12 dX8_back_150 (g_iret rfl dX8_back_153 (Nat.le_of_ble_eq_true rfl) (Nat.le_of_ble_eq_true rfl) ?q153))))))))))) (fun h97 => ?s100)))
      case s100 => omega
      case q153 =>
        have lk : ∀ {l : List Nat} {F G' : Nat → Int32}, Lst l F → l.length ≤ D2.1.length → (∀ j, j < D2.1.length → G' j = F j) → Lst l G' := by
          intro l F G' h hl he j x hj
          have := (List.getElem?_eq_some_iff.mp hj).1
          rw [he j (by omega)]; exact h j x hj
        refine hQ _ _ ⟨?_, _, f2, rfl, ((agV.rf.up 12 _ rfl).up 15 _ rfl).up 4 _ rfl, h1, ⟨?_, ?_, ?_, ?_, ?_, ?_⟩, ⟨i4, ?_, ?_, ?_⟩, ?_⟩
        · rw [upd_o (by decide), upd_o (by decide), upd_s]; exact i1
        · rw [upd_o (by decide), upd_o (by decide), upd_s]; exact i1
        · rw [h1.at 7 rfl]; exact h7
        · exact lk i6 (by omega) (fun j hj => (h2 j hj).2.1)
        · exact lk i7 (by omega) (fun j hj => (h2 j hj).2.2.1)
        · exact lk i8 (by omega) (fun j hj => (h2 j hj).2.2.2)
        · exact lk i5 (by omega) (fun j hj => (h2 j hj).1)
        · rw [upd_o (by decide), upd_s, upd_o (by decide)]; exact i2
        · intro j x hj
          have := (List.getElem?_eq_some_iff.mp hj).1
          rw [List.length_map] at this
          rw [(h3 j (by omega)).1]; exact i9 j x hj
        · intro j x hj
          have := (List.getElem?_eq_some_iff.mp hj).1
          rw [List.length_map] at this
          rw [(h3 j (by omega)).2]; exact i10 j x hj
        · rw [upd_s, upd_o (by decide), upd_o (by decide)]; exact i3
    | succ u ih =>
      intro i f2 hi h1 h2 h3
      have ei := t_nI (n := i) (by omega)
      have e40 : (40 + nI i).toInt = ((40 + i : Nat) : Int) := by rw [show (40 : Int32) = nI 40 from rfl, nI_add, t_nI (by omega)]
      refine g_iload1 dX8_back_94 (g_bipush kb_40 dX8_back_95 (g_icmp_ge (tgt := 133) dX8_back_97 (by decide) (fun h97 => ?s133_2) (fun h97 => g_aload0 dX8_back_100 (g_mget fl_X8_38 mg_13 dX8_back_101 (g_iload1 dX8_back_104 (g_aload0 dX8_back_105 (g_mget fl_X8_77 mg_48 dX8_back_106 (g_iload1 dX8_back_109 (g_mia ma_48 dX8_back_110 ?b110_2 (g_mis ma_13 mas_13 dX8_back_111 ?b111_2 (g_aload0 dX8_back_112 (g_mget fl_X8_41 mg_14 dX8_back_113 (g_iload1 dX8_back_116 (g_aload0 dX8_back_117 (g_mget fl_X8_77 mg_48 dX8_back_118 (g_bipush kb_40 dX8_back_121 (g_iload1 dX8_back_123 (g_iadd dX8_back_124 (g_mia ma_48 dX8_back_125 ?b125_2 (g_mis ma_14 mas_14 dX8_back_126 ?b126_2 (g_iinc1 ki_1 dX8_back_127 rfl rfl (g_goto (tgt := 94) dX8_back_130 (by decide) (?s94_2)))))))))))))))))))))))
      case s133_2 => omega
      case s94_2 =>
        rw [e40, ei, Int.toNat_natCast, Int.toNat_natCast, nI_1, updA_o (show (14 : Nat) ≠ 13 by decide), updA_o (show (48 : Nat) ≠ 13 by decide), h1.at 48 rfl]
        refine ih (i + 1) _ (by omega) ((h1.up 13 _ rfl).up 14 _ rfl) ?_ ?_
        · intro j hj
          simp only [updA_o (show (11 : Nat) ≠ 14 by decide), updA_o (show (11 : Nat) ≠ 13 by decide), updA_o (show (8 : Nat) ≠ 14 by decide), updA_o (show (8 : Nat) ≠ 13 by decide), updA_o (show (9 : Nat) ≠ 14 by decide), updA_o (show (9 : Nat) ≠ 13 by decide), updA_o (show (10 : Nat) ≠ 14 by decide), updA_o (show (10 : Nat) ≠ 13 by decide)]
          exact h2 j hj
        · intro j hj
          rw [updA_o (show (13 : Nat) ≠ 14 by decide), updA_s, updA_s]
          by_cases hji : j = i
          · subst hji
            rw [upd_s, upd_s]
            exact ⟨rfl, rfl⟩
          · rw [upd_o (by omega), upd_o (by omega)]
            exact h3 j (by omega)
      all_goals first | omega | (rw [e40]; show _ ∧ _ < (80 : Int); omega)
  have ph1 : ∀ u i f2, i + u = D2.1.length → agF [8, 9, 10, 11, 13, 14] f f2 → (∀ j, j < i → f2 11 j = f 47 j ∧ f2 8 j = f 47 (6 + j) ∧ f2 9 j = f 47 (12 + j) ∧ f2 10 j = f 47 (18 + j)) → G E mX8_back (d + 1) 0 0 A Q 0 0 21 [some (.ref (b 0)), some (.int (nI i))] [] (mW E b (upd v 12 (v 49)) t f2) := by
    intro u
    induction u with
    | zero =>
      intro i f2 hi h1 h2
      have ei := t_nI (n := i) (by omega)
      have eu : (upd v 12 (v 49) 12).toInt = D2.1.length := by rw [upd_s]; exact e49
      have hii : i = D2.1.length := by omega
      subst hii
      refine g_iload1 dX8_back_21 (g_aload0 dX8_back_22 (g_mget fl_X8_103 mg_12 dX8_back_23 (g_icmp_ge (tgt := 92) dX8_back_26 (by decide) (fun h26 => g_iconst ki_0 dX8_back_92 (g_istore1 dX8_back_93 rfl rfl (?s94_3))) (fun h26 => ?s29_3))))
      case s29_3 => omega
      case s94_3 => exact ph2 40 0 f2 (by omega) h1 h2 (fun j hj => absurd hj (Nat.not_lt_zero j))
    | succ u ih =>
      intro i f2 hi h1 h2
      have ei := t_nI (n := i) (by omega)
      have eu : (upd v 12 (v 49) 12).toInt = D2.1.length := by rw [upd_s]; exact e49
      have e6 : (6 + nI i).toInt = ((6 + i : Nat) : Int) := by rw [show (6 : Int32) = nI 6 from rfl, nI_add, t_nI (by omega)]
      have e12 : (12 + nI i).toInt = ((12 + i : Nat) : Int) := by rw [show (12 : Int32) = nI 12 from rfl, nI_add, t_nI (by omega)]
      have e18 : (18 + nI i).toInt = ((18 + i : Nat) : Int) := by rw [show (18 : Int32) = nI 18 from rfl, nI_add, t_nI (by omega)]
      refine g_iload1 dX8_back_21 (g_aload0 dX8_back_22 (g_mget fl_X8_103 mg_12 dX8_back_23 (g_icmp_ge (tgt := 92) dX8_back_26 (by decide) (fun h26 => ?s92_4) (fun h26 => g_aload0 dX8_back_29 (g_mget fl_X8_35 mg_11 dX8_back_30 (g_iload1 dX8_back_33 (g_aload0 dX8_back_34 (g_mget fl_X8_74 mg_47 dX8_back_35 (g_iload1 dX8_back_38 (g_mia ma_47 dX8_back_39 ?b39_4 (g_mis ma_11 mas_11 dX8_back_40 ?b40_4 (g_aload0 dX8_back_41 (g_mget fl_X8_26 mg_8 dX8_back_42 (g_iload1 dX8_back_45 (g_aload0 dX8_back_46 (g_mget fl_X8_74 mg_47 dX8_back_47 (g_bipush kb_6 dX8_back_50 (g_iload1 dX8_back_52 (g_iadd dX8_back_53 (g_mia ma_47 dX8_back_54 ?b54_4 (g_mis ma_8 mas_8 dX8_back_55 ?b55_4 (g_aload0 dX8_back_56 (g_mget fl_X8_29 mg_9 dX8_back_57 (g_iload1 dX8_back_60 (g_aload0 dX8_back_61 (g_mget fl_X8_74 mg_47 dX8_back_62 (g_bipush kb_12 dX8_back_65 (g_iload1 dX8_back_67 (g_iadd dX8_back_68 (g_mia ma_47 dX8_back_69 ?b69_4 (g_mis ma_9 mas_9 dX8_back_70 ?b70_4 (g_aload0 dX8_back_71 (g_mget fl_X8_32 mg_10 dX8_back_72 (g_iload1 dX8_back_75 (g_aload0 dX8_back_76 (g_mget fl_X8_74 mg_47 dX8_back_77 (g_bipush kb_18 dX8_back_80 (g_iload1 dX8_back_82 (g_iadd dX8_back_83 (g_mia ma_47 dX8_back_84 ?b84_4 (g_mis ma_10 mas_10 dX8_back_85 ?b85_4 (g_iinc1 ki_1 dX8_back_86 rfl rfl (g_goto (tgt := 21) dX8_back_89 (by decide) (?s21_4))))))))))))))))))))))))))))))))))))))))))))
      case s92_4 => omega
      case s21_4 =>
        rw [e6, e12, e18, ei, Int.toNat_natCast, Int.toNat_natCast, Int.toNat_natCast, Int.toNat_natCast, nI_1]
        simp only [updA_o (show (47 : Nat) ≠ 11 by decide), updA_o (show (47 : Nat) ≠ 8 by decide), updA_o (show (47 : Nat) ≠ 9 by decide), updA_o (show (8 : Nat) ≠ 11 by decide), updA_o (show (9 : Nat) ≠ 11 by decide), updA_o (show (9 : Nat) ≠ 8 by decide), updA_o (show (10 : Nat) ≠ 11 by decide), updA_o (show (10 : Nat) ≠ 8 by decide), updA_o (show (10 : Nat) ≠ 9 by decide)]
        rw [h1.at 47 rfl]
        refine ih (i + 1) _ (by omega) ((((h1.up 11 _ rfl).up 8 _ rfl).up 9 _ rfl).up 10 _ rfl) ?_
        intro j hj
        simp only [updA_s, updA_o (show (11 : Nat) ≠ 10 by decide), updA_o (show (11 : Nat) ≠ 9 by decide), updA_o (show (11 : Nat) ≠ 8 by decide), updA_o (show (8 : Nat) ≠ 10 by decide), updA_o (show (8 : Nat) ≠ 9 by decide), updA_o (show (9 : Nat) ≠ 10 by decide)]
        by_cases hji : j = i
        · subst hji
          rw [upd_s, upd_s, upd_s, upd_s]
          exact ⟨rfl, rfl, rfl, rfl⟩
        · rw [upd_o (by omega), upd_o (by omega), upd_o (by omega), upd_o (by omega)]
          exact h2 j (by omega)
      all_goals first | omega | (rw [e6]; show _ ∧ _ < (24 : Int); omega) | (rw [e12]; show _ ∧ _ < (24 : Int); omega) | (rw [e18]; show _ ∧ _ < (24 : Int); omega)
  refine g_aload0 dX8_back_0 (g_mget fl_X8_80 mg_49 dX8_back_1 (g_iconst ki_m1 dX8_back_4 (g_icmp_ne (tgt := 11) dX8_back_5 (by decide) (fun h5 => g_aload0 dX8_back_11 (g_aload0 dX8_back_12 (g_mget fl_X8_80 mg_49 dX8_back_13 (g_mput fl_X8_103 fp_7_12 ms_12 rfl rfl rfl dX8_back_16 (g_iconst ki_0 dX8_back_19 (g_istore1 dX8_back_20 rfl rfl (?s21_5))))))) (fun h5 => g_bipush kb_m3 dX8_back_8 (g_iret rfl dX8_back_10 (Nat.le_of_ble_eq_true rfl) (Nat.le_of_ble_eq_true rfl) ?q10_5)))))
  case q10_5 => omega
  case s21_5 => exact ph1 D2.1.length 0 f (by omega) agF.rf (fun j hj => absurd hj (Nat.not_lt_zero j))
end S99c
