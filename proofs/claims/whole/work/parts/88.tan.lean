theorem MD.tg {v v' : Nat → Int32} {f f' : Nat → Nat → Int32} {D : Dg} (h : MD v f D) (h1 : agV [34] v v') (h2 : agF [11, 31, 32, 33] f f') (h3 : Lst D.2.2.2.2 (f' 11)) : MD v' f' D := by
  unfold MD
  rw [h1.at 12 rfl, h2.at 7 rfl, h2.at 8 rfl, h2.at 9 rfl, h2.at 10 rfl]
  exact ⟨h.1, h.2.1, h.2.2.1, h.2.2.2.1, h.2.2.2.2.1, h3⟩
theorem PLI.tan {D : Dg} {O0 : List Nat} {L : List Cr} (h : PLI D O0 L) (hD : dgOK D) : tgL 0 L = tanL L := by
  obtain ⟨h1, h2, h3⟩ := h.ord hD 0
  have hn := hD.1
  exact tgL_0 h.1 h1 (fun x hx => by have := h2 x hx; omega)
theorem PLI.ok {D : Dg} {O0 : List Nat} {L : List Cr} (h : PLI D O0 L) (hD : dgOK D) : plOK D.1.length L := by
  intro c hc
  obtain ⟨k, hk⟩ := List.getElem?_of_mem hc
  obtain ⟨r1, r2, -⟩ := rpl_get h.1 hk
  obtain ⟨o1, o2, o3⟩ := h.ord hD k
  obtain ⟨p1, p2, p3⟩ := h.ord hD 0
  have hn := hD.1
  have hol : (ordE O0 (L.take k)).length = O0.length := ordE_len _ _
  have ga := getD_at (l := ordE O0 (L.take k)) (i := c.1) (by omega)
  have gb := getD_at (l := ordE O0 (L.take k)) (i := c.1 + 1) (by omega)
  refine ⟨by omega, h.2.2 c hc, ?_, ?_, ?_⟩
  · rw [r1]; exact o2 _ (List.mem_of_getElem? ga)
  · rw [r1]; exact o2 _ (List.mem_of_getElem? gb)
  · rw [r1]
    exact bset_lt _ (fun y hy => by have := o2 y (List.mem_of_mem_take hy); omega)
section S88
variable {E : GE} {d : Nat} {b : Nat → Nat} {v : Nat → Int32} {t : Int64} {f : Nat → Nat → Int32} {D : Dg} {L Lt : List Cr} {O0 : List Nat} {T : List Nat} {r : Nat}
/-- the tangle of nobody unclipped -/
theorem c_X8_tan0 (hN : g_N E) (hD : dgOK D) (hM : MD v f D) (hL : ML v f L) (hI : PLI D O0 L) : g_Cv E mX8_tangle (d + 3) [.ref (b 0), .int 0] (mW E b v t f) (fun w => ∃ v' f', w = mW E b v' t f' ∧ agV [34] v v' ∧ agF [11, 31, 32, 33] f f' ∧ MD v' f' D ∧ ML v' f' L ∧ MLf v' f' (tanL L)) := by
  have h := c_X8_tangle (b := b) (t := t) (d := d) hN hD hM hL hI (s := 0) (by omega)
  rw [hI.tan hD] at h
  exact h.post (fun w hw => by
    obtain ⟨v', f', h1, h2, h3, h4, h5⟩ := hw
    exact ⟨v', f', h1, h2, h3, hM.tg h2 h3 h4, hL.ag h2 h3 rfl rfl rfl, h5⟩)
set_option maxRecDepth 20000 in
set_option maxHeartbeats 2000000 in
theorem c_X8_comb (hN : g_N E) (hD : dgOK D) (hM : MD v f D) (hL : ML v f L) (hI : PLI D O0 L) : g_Ci E mX8_comb (d + 4) [.ref (b 0)] (mW E b v t f) (fun z w => z = nI (L.length - (tanL L).length) ∧ ∃ v' f', w = mW E b v' t f' ∧ agV [15, 34] v v' ∧ agF [11, 13, 14, 31, 32, 33] f f' ∧ MD v' f' D ∧ ML v' f' (tanL L)) := by
  have hlen := tanL_len L
  have hL40 := hL.1
  refine g_enterI hN.1 (by decide) [some (.ref (b 0)), none, none] rfl (Nat.le_of_ble_eq_true rfl) (fun A Q hQ => ?_)
  have tc0 := tc_0; have tc1 := tc_1
  refine g_aload0 dX8_comb_0 (g_iconst ki_0 dX8_comb_1 (?c2))
  refine g_V1v dX8_comb_2 mv_X8_281 0 rfl rfl rfl (Nat.le_of_ble_eq_true rfl) (Nat.le_of_ble_eq_true rfl) (c_X8_tan0 (d := d) hN hD hM hL hI) (fun w1 hq => ?_)
  obtain ⟨v1, f1, rfl, hag, hagf, hM1, hL1, hLf⟩ := hq
  obtain ⟨L1, L2, L3, L4, L5⟩ := id hLf
  obtain ⟨K1, K2, K3, K4⟩ := id hL1
  have e34 : (v1 34).toInt = (tanL L).length := by rw [L2, t_nI (by omega)]
  have hz : v1 15 - v1 34 = nI (L.length - (tanL L).length) := by rw [K2, L2]; exact pk_sub hlen
  have loop : ∀ u i f2, i + u = (tanL L).length → agF [13, 14] f1 f2 → (∀ j, j < i → f2 13 j = f1 31 j ∧ f2 14 j = f1 32 j) → G E mX8_comb (d + 4) 0 0 A Q 0 0 17 [some (.ref (b 0)), some (.int (nI (L.length - (tanL L).length))), some (.int (nI i))] [] (mW E b v1 t f2) := by
    intro u
    induction u with
    | zero =>
      intro i f2 hi h1 h2
      have ei := t_nI (n := i) (by omega)
      refine g_iload2 dX8_comb_17 (g_aload0 dX8_comb_18 (g_mget fl_X8_274 mg_34 dX8_comb_19 (g_icmp_ge (tgt := 55) dX8_comb_22 (by decide) (fun h22 => g_aload0 dX8_comb_55 (g_aload0 dX8_comb_56 (g_mget fl_X8_274 mg_34 dX8_comb_57 (g_mput fl_X8_116 fp_7_15 ms_15 rfl rfl rfl dX8_comb_60 (g_iload1 dX8_comb_63 (g_iret rfl dX8_comb_64 (Nat.le_of_ble_eq_true rfl) (Nat.le_of_ble_eq_true rfl) ?q64_2)))))) (fun h22 => ?s25_2))))
      case s25_2 => omega
      case q64_2 =>
        refine hQ _ _ ⟨rfl, _, f2, rfl, (hag.wk rfl).up 15 _ rfl, (hagf.wk rfl).tr (h1.wk rfl), ?_, ?_⟩
        · exact hM1.ag (S1 := [15]) (agV.rf.up 15 _ rfl) h1 rfl rfl
        · refine ⟨by omega, by rw [upd_s, L2], ?_, ?_⟩
          · intro j x hx
            have := (List.getElem?_eq_some_iff.mp hx).1
            rw [List.length_map] at this
            rw [(h2 j (by omega)).1]; exact L3 j x hx
          · intro j x hx
            have := (List.getElem?_eq_some_iff.mp hx).1
            rw [List.length_map] at this
            rw [(h2 j (by omega)).2]; exact L4 j x hx
    | succ u ih =>
      intro i f2 hi h1 h2
      have ei := t_nI (n := i) (by omega)
      refine g_iload2 dX8_comb_17 (g_aload0 dX8_comb_18 (g_mget fl_X8_274 mg_34 dX8_comb_19 (g_icmp_ge (tgt := 55) dX8_comb_22 (by decide) (fun h22 => ?s55_3) (fun h22 => g_aload0 dX8_comb_25 (g_mget fl_X8_38 mg_13 dX8_comb_26 (g_iload2 dX8_comb_29 (g_aload0 dX8_comb_30 (g_mget fl_X8_44 mg_31 dX8_comb_31 (g_iload2 dX8_comb_34 (g_mia ma_31 dX8_comb_35 ?b35_3 (g_mis ma_13 mas_13 dX8_comb_36 ?b36_3 (g_aload0 dX8_comb_37 (g_mget fl_X8_41 mg_14 dX8_comb_38 (g_iload2 dX8_comb_41 (g_aload0 dX8_comb_42 (g_mget fl_X8_47 mg_32 dX8_comb_43 (g_iload2 dX8_comb_46 (g_mia ma_32 dX8_comb_47 ?b47_3 (g_mis ma_14 mas_14 dX8_comb_48 ?b48_3 (g_iinc2 ki_1 dX8_comb_49 rfl rfl (g_goto (tgt := 17) dX8_comb_52 (by decide) (?s17_3))))))))))))))))))))))
      case s55_3 => omega
      case s17_3 =>
        rw [ei, Int.toNat_natCast, nI_1, updA_o (show (32 : Nat) ≠ 13 by decide), updA_o (show (14 : Nat) ≠ 13 by decide), h1.at 31 rfl, h1.at 32 rfl]
        refine ih (i + 1) _ (by omega) ((h1.up 13 _ rfl).up 14 _ rfl) ?_
        intro j hj
        rw [updA_o (show (13 : Nat) ≠ 14 by decide), updA_s, updA_s]
        by_cases hji : j = i
        · rw [hji, upd_s, upd_s]; exact ⟨rfl, rfl⟩
        · rw [upd_o hji, upd_o hji]; exact h2 j (by omega)
      all_goals omega
  refine g_aload0 dX8_comb_5 (g_mget fl_X8_116 mg_15 dX8_comb_6 (g_aload0 dX8_comb_9 (g_mget fl_X8_274 mg_34 dX8_comb_10 (g_isub dX8_comb_13 (g_istore1 dX8_comb_14 rfl rfl (g_iconst ki_0 dX8_comb_15 (g_istore2 dX8_comb_16 rfl rfl (?s17_4))))))))
  rw [hz]
  exact loop (tanL L).length 0 f1 (by omega) agF.rf (fun j hj => absurd hj (Nat.not_lt_zero j))
theorem getD_ac {l : List Cr} {i : Nat} (h : i < l.length) : l[i]? = some (l.getD i (0, 0, 0, 0, 0)) := by
  rw [List.getD_eq_getElem?_getD, List.getElem?_eq_getElem h]; rfl
set_option maxRecDepth 20000 in
set_option maxHeartbeats 2000000 in
theorem c_X8_left (hN : g_N E) (hD : dgOK D) (hM : MD v f D) (hL : ML v f L) (hI : PLI D O0 L) (x : Int32) : g_Ci E mX8_left (d + 4) [.ref (b 0), .int x] (mW E b v t f) (fun z w => z = sLeft (tanL L) x ∧ ∃ v' f', w = mW E b v' t f' ∧ agV [34] v v' ∧ agF [11, 31, 32, 33] f f' ∧ MD v' f' D) := by
  have hlen := tanL_len L
  have hL40 := hL.1
  refine g_enterI hN.1 (by decide) [some (.ref (b 0)), some (.int x)] rfl (Nat.le_of_ble_eq_true rfl) (fun A Q hQ => ?_)
  have tcm1 := tc_m1; have tc0 := tc_0; have tc1 := tc_1; have tc10 := tc_10
  refine g_aload0 dX8_left_0 (g_iconst ki_0 dX8_left_1 (?c2))
  refine g_V1v dX8_left_2 mv_X8_281 0 rfl rfl rfl (Nat.le_of_ble_eq_true rfl) (Nat.le_of_ble_eq_true rfl) (c_X8_tan0 (d := d) hN hD hM hL hI) (fun w1 hq => ?_)
  obtain ⟨v1, f1, rfl, hag, hagf, hM1, hL1, hLf⟩ := hq
  obtain ⟨L1, L2, L3, L4, L5⟩ := id hLf
  have e34 : (v1 34 - 1).toInt = ((tanL L).length : Int) - 1 := by rw [L2, t_sub (by rw [tc_1, t_nI (by omega)]; omega) (by rw [tc_1, t_nI (by omega)]; omega), t_nI (by omega), tc_1]
  unfold sLeft at hQ
  refine g_iload1 dX8_left_5 (g_i2l dX8_left_6 (g_lconst kl_0 dX8_left_7 (g_aload0 dX8_left_8 (g_mget fl_X8_274 mg_34 dX8_left_9 (g_iconst ki_1 dX8_left_12 (g_isub dX8_left_13 (g_i2l dX8_left_14 (r_X8_in hN mv_X8_106 dX8_left_15 (Nat.le_of_ble_eq_true rfl) (Nat.le_of_ble_eq_true rfl) rfl (g_if_eq (tgt := 40) dX8_left_18 (by decide) (fun h18 => g_iconst ki_m1 dX8_left_40 (g_iret rfl dX8_left_41 (Nat.le_of_ble_eq_true rfl) (Nat.le_of_ble_eq_true rfl) ?q41_2)) (fun h18 => g_bipush kb_10 dX8_left_21 (g_aload0 dX8_left_23 (g_mget fl_X8_44 mg_31 dX8_left_24 (g_iload1 dX8_left_27 (g_mia ma_31 dX8_left_28 ?b28_2 (g_imul dX8_left_29 (g_aload0 dX8_left_30 (g_mget fl_X8_47 mg_32 dX8_left_31 (g_iload1 dX8_left_34 (g_mia ma_32 dX8_left_35 ?b35_2 (g_iadd dX8_left_36 (g_goto (tgt := 41) dX8_left_37 (by decide) (g_iret rfl dX8_left_41 (Nat.le_of_ble_eq_true rfl) (Nat.le_of_ble_eq_true rfl) ?q41_2'))))))))))))))))))))))
  all_goals try simp only [g_biz, Int32.toInt_toInt64, tl_m4611686018427387904, tl_m1, tl_0, tl_1, tl_2, tl_3, tl_4, tl_5, tl_9, tl_10, tl_20, tl_40, tl_43, tl_48, tl_57, tl_60, tl_97, tl_99, tl_122, tl_255] at *
  case q41_2 => rw [if_neg (by omega)] at hQ; exact hQ _ _ ⟨rfl, v1, f1, rfl, hag, hagf, hM1⟩
  case q41_2' =>
    rw [if_pos (by omega)] at hQ
    have g := getD_ac (l := tanL L) (i := x.toInt.toNat) (by omega)
    refine hQ _ _ ⟨?_, v1, f1, rfl, hag, hagf, hM1⟩
    rw [L3.at (by rw [List.getElem?_map, g]; rfl), L4.at (by rw [List.getElem?_map, g]; rfl), ← nI_add, ← pk_mul]
    rfl
  all_goals omega
set_option maxRecDepth 20000 in
set_option maxHeartbeats 2000000 in
theorem c_X8_who (hN : g_N E) (hD : dgOK D) (hM : MD v f D) (hL : ML v f L) (hI : PLI D O0 L) (x y : Int32) : g_Ci E mX8_who (d + 4) [.ref (b 0), .int x, .int y] (mW E b v t f) (fun z w => z = sWho D (tanL L) x y ∧ ∃ v' f', w = mW E b v' t f' ∧ agV [34] v v' ∧ agF [11, 31, 32, 33] f f' ∧ MD v' f' D) := by
  have hlen := tanL_len L
  have hL40 := hL.1
  have hn := hD.1
  have hok := hI.ok hD
  obtain ⟨n0, n1, n2⟩ := hM.n1 hn
  refine g_enterI hN.1 (by decide) [some (.ref (b 0)), some (.int x), some (.int y), none, none, none, none] rfl (Nat.le_of_ble_eq_true rfl) (fun A Q hQ => ?_)
  have tcm2 := tc_m2; have tc0 := tc_0; have tc1 := tc_1; have tc10 := tc_10
  unfold sWho at hQ
  refine g_aload0 dX8_who_0 (g_iload1 dX8_who_1 (r_X8_isDog hN mv_X8_119 dX8_who_2 (Nat.le_of_ble_eq_true rfl) (Nat.le_of_ble_eq_true rfl) rfl (g_if_eq (tgt := 16) dX8_who_5 (by decide) (fun h5 => g_bipush kb_m2 dX8_who_16 (g_iret rfl dX8_who_18 (Nat.le_of_ble_eq_true rfl) (Nat.le_of_ble_eq_true rfl) ?q18)) (fun h5 => g_aload0 dX8_who_8 (g_iload2 dX8_who_9 (r_X8_isDog hN mv_X8_119 dX8_who_10 (Nat.le_of_ble_eq_true rfl) (Nat.le_of_ble_eq_true rfl) rfl (g_if_ne (tgt := 19) dX8_who_13 (by decide) (fun h13 => g_aload0 dX8_who_19 (g_iconst ki_0 dX8_who_20 (?c21))) (fun h13 => g_bipush kb_m2 dX8_who_16 (g_iret rfl dX8_who_18 (Nat.le_of_ble_eq_true rfl) (Nat.le_of_ble_eq_true rfl) ?q18')))))))))
  all_goals try simp only [g_biz, Int32.toInt_toInt64, tl_m4611686018427387904, tl_m1, tl_0, tl_1, tl_2, tl_3, tl_4, tl_5, tl_9, tl_10, tl_20, tl_40, tl_43, tl_48, tl_57, tl_60, tl_97, tl_99, tl_122, tl_255] at *
  case q18 => rw [if_pos (by omega)] at hQ; exact hQ _ _ ⟨rfl, v, f, rfl, agV.rf, agF.rf, hM⟩
  case q18' => rw [if_pos (by omega)] at hQ; exact hQ _ _ ⟨rfl, v, f, rfl, agV.rf, agF.rf, hM⟩
  case c21 =>
    rw [if_neg (by omega)] at hQ
    refine g_V1v dX8_who_21 mv_X8_281 0 rfl rfl rfl (Nat.le_of_ble_eq_true rfl) (Nat.le_of_ble_eq_true rfl) (c_X8_tan0 (d := d) hN hD hM hL hI) (fun w1 hq => ?_)
    obtain ⟨v1, f1, rfl, hag, hagf, hM1, hL1, hLf⟩ := hq
    obtain ⟨L1, L2, L3, L4, L5⟩ := id hLf
    have e34 : (v1 34).toInt = (tanL L).length := by rw [L2, t_nI (by omega)]
    have tc10 := tc_10
    have loop : ∀ u i l5 l6, i + u = (tanL L).length → G E mX8_who (d + 4) 0 0 A Q 0 0 29 [some (.ref (b 0)), some (.int x), some (.int y), some (.int (nI (cntW ((tanL L).take i) x.toInt.toNat y.toInt.toNat))), some (.int (nI i)), l5, l6] [] (mW E b v1 t f1) := by
      intro u
      induction u with
      | zero =>
        intro i l5 l6 hi
        have ei := t_nI (n := i) (by omega)
        have htk : (tanL L).take i = tanL L := List.take_of_length_le (by omega)
        rw [htk]
        have hcw : cntW (tanL L) x.toInt.toNat y.toInt.toNat ≤ 40 := by
          unfold cntW
          have := List.length_filter_le (fun c => whoP c x.toInt.toNat y.toInt.toNat) (tanL L)
          omega
        have ecw := t_nI (n := cntW (tanL L) x.toInt.toNat y.toInt.toNat) (by omega)
        refine g_iload4 dX8_who_29 (g_aload0 dX8_who_31 (g_mget fl_X8_274 mg_34 dX8_who_32 (g_icmp_ge (tgt := 115) dX8_who_35 (by decide) (fun h35 => g_iload1 dX8_who_115 (g_iload2 dX8_who_116 (g_icmp_ne (tgt := 128) dX8_who_117 (by decide) (fun h117 => g_iload3 dX8_who_128 (g_iret rfl dX8_who_129 (Nat.le_of_ble_eq_true rfl) (Nat.le_of_ble_eq_true rfl) ?q129_2)) (fun h117 => g_iload3 dX8_who_120 (g_if_le (tgt := 128) dX8_who_121 (by decide) (fun h121 => g_iload3 dX8_who_128 (g_iret rfl dX8_who_129 (Nat.le_of_ble_eq_true rfl) (Nat.le_of_ble_eq_true rfl) ?q129_2')) (fun h121 => g_iconst ki_1 dX8_who_124 (g_goto (tgt := 129) dX8_who_125 (by decide) (g_iret rfl dX8_who_129 (Nat.le_of_ble_eq_true rfl) (Nat.le_of_ble_eq_true rfl) ?q129_2'')))))))) (fun h35 => ?s38_2))))
        case s38_2 => omega
        case q129_2 =>
          rw [if_neg (by omega)] at hQ
          exact hQ _ _ ⟨rfl, v1, f1, rfl, hag, hagf, hM1⟩
        case q129_2' =>
          rw [if_pos (by omega)] at hQ
          refine hQ _ _ ⟨?_, v1, f1, rfl, hag, hagf, hM1⟩
          rw [Nat.min_eq_left (by omega)]
        case q129_2'' =>
          rw [if_pos (by omega)] at hQ
          refine hQ _ _ ⟨?_, v1, f1, rfl, hag, hagf, hM1⟩
          rw [Nat.min_eq_right (by omega)]; rfl
      | succ u ih =>
        intro i l5 l6 hi
        have ei := t_nI (n := i) (by omega)
        have g := getD_ac (l := tanL L) (i := i) (by omega)
        have hcm := tanL_sub (List.mem_of_getElem? g)
        have hts : (tanL L).take (i + 1) = (tanL L).take i ++ [(tanL L).getD i (0, 0, 0, 0, 0)] := by rw [List.take_succ, g]; rfl
        generalize (tanL L).getD i (0, 0, 0, 0, 0) = c at *
        obtain ⟨-, -, k1, k2, -⟩ := hok c hcm
        have p1 : f1 33 i = nI (ofN c) := L5.at (by rw [List.getElem?_map, g]; rfl)
        have d1 : nI (ofN c) / 10 = nI c.2.2.1 := by
          rw [show (10 : Int32) = nI 10 from rfl, pk_div (by unfold ofN; omega) (by omega) (by omega)]
          unfold ofN
          rw [show (10 * c.2.2.1 + c.2.2.2.1) / 10 = c.2.2.1 by omega]
        have d2 : nI (ofN c) - nI (ofN c) / 10 * 10 = nI c.2.2.2.1 := by
          rw [show (10 : Int32) = nI 10 from rfl, pk_rem (by unfold ofN; omega) (by omega) (by omega)]
          unfold ofN
          rw [show (10 * c.2.2.1 + c.2.2.2.1) % 10 = c.2.2.2.1 by omega]
        have e1 := t_nI (n := c.2.2.1) (by omega)
        have e2 := t_nI (n := c.2.2.2.1) (by omega)
        have hcs := cntW_snoc ((tanL L).take i) c x.toInt.toNat y.toInt.toNat
        rw [← hts] at hcs
        have wp : whoP c x.toInt.toNat y.toInt.toNat = true ↔ ((x.toInt.toNat = c.2.2.1 ∨ x.toInt.toNat = c.2.2.2.1) ∧ (y.toInt.toNat = c.2.2.1 ∨ y.toInt.toNat = c.2.2.2.1)) := by
          unfold whoP
          simp only [Bool.and_eq_true, Bool.or_eq_true, beq_iff_eq]
        have yes : whoP c x.toInt.toNat y.toInt.toNat = true → ∀ l5 l6, G E mX8_who (d + 4) 0 0 A Q 0 0 106 [some (.ref (b 0)), some (.int x), some (.int y), some (.int (nI (cntW ((tanL L).take i) x.toInt.toNat y.toInt.toNat))), some (.int (nI i)), l5, l6] [] (mW E b v1 t f1) := by
          intro hw l5 l6
          rw [if_pos hw] at hcs
          refine g_iinc3 ki_1 dX8_who_106 rfl rfl (g_iinc4 ki_1 dX8_who_109 rfl rfl (g_goto (tgt := 29) dX8_who_112 (by decide) (?s29_3)))
          rw [nI_1, nI_1, ← hcs]
          exact ih (i + 1) _ _ (by omega)
        have no : ¬ whoP c x.toInt.toNat y.toInt.toNat = true → ∀ l5 l6, G E mX8_who (d + 4) 0 0 A Q 0 0 109 [some (.ref (b 0)), some (.int x), some (.int y), some (.int (nI (cntW ((tanL L).take i) x.toInt.toNat y.toInt.toNat))), some (.int (nI i)), l5, l6] [] (mW E b v1 t f1) := by
          intro hw l5 l6
          rw [if_neg hw] at hcs
          refine g_iinc4 ki_1 dX8_who_109 rfl rfl (g_goto (tgt := 29) dX8_who_112 (by decide) (?s29_4))
          have hcs' : cntW ((tanL L).take i) x.toInt.toNat y.toInt.toNat = cntW ((tanL L).take (i + 1)) x.toInt.toNat y.toInt.toNat := by omega
          rw [nI_1, hcs']
          exact ih (i + 1) _ _ (by omega)
        refine g_iload4 dX8_who_29 (g_aload0 dX8_who_31 (g_mget fl_X8_274 mg_34 dX8_who_32 (g_icmp_ge (tgt := 115) dX8_who_35 (by decide) (fun h35 => ?s115_5) (fun h35 => g_aload0 dX8_who_38 (g_mget fl_X8_50 mg_33 dX8_who_39 (g_iload4 dX8_who_42 (g_mia ma_33 dX8_who_44 ?b44_5 (g_bipush kb_10 dX8_who_45 (g_idiv dX8_who_47 ?z47_5 (g_istore5 dX8_who_48 rfl rfl (g_aload0 dX8_who_50 (g_mget fl_X8_50 mg_33 dX8_who_51 (g_iload4 dX8_who_54 (g_mia ma_33 dX8_who_56 ?b56_5 (g_bipush kb_10 dX8_who_57 (g_irem dX8_who_59 ?z59_5 (g_istore6 dX8_who_60 rfl rfl (?s62_5))))))))))))))))))
        case s115_5 => omega
        case b44_5 => omega
        case z47_5 => decide
        case b56_5 => omega
        case z59_5 => decide
        case s62_5 =>
          rw [ei, Int.toNat_natCast, p1, d2, d1]
          refine g_iload1 dX8_who_62 (g_iload2 dX8_who_63 (g_icmp_ne (tgt := 82) dX8_who_64 (by decide) (fun h64 => g_iload5 dX8_who_82 (g_iload1 dX8_who_84 (g_icmp_ne (tgt := 94) dX8_who_85 (by decide) (fun h85 => g_iload5 dX8_who_94 (g_iload2 dX8_who_96 (g_icmp_ne (tgt := 109) dX8_who_97 (by decide) (fun h97 => ?s109_6) (fun h97 => g_iload6 dX8_who_100 (g_iload1 dX8_who_102 (g_icmp_ne (tgt := 109) dX8_who_103 (by decide) (fun h103 => ?s109_6') (fun h103 => ?s106_6))))))) (fun h85 => g_iload6 dX8_who_88 (g_iload2 dX8_who_90 (g_icmp_eq (tgt := 106) dX8_who_91 (by decide) (fun h91 => ?s106_6') (fun h91 => g_iload5 dX8_who_94 (g_iload2 dX8_who_96 (g_icmp_ne (tgt := 109) dX8_who_97 (by decide) (fun h97 => ?s109_6'') (fun h97 => g_iload6 dX8_who_100 (g_iload1 dX8_who_102 (g_icmp_ne (tgt := 109) dX8_who_103 (by decide) (fun h103 => ?s109_6''') (fun h103 => ?s106_6''))))))))))))) (fun h64 => g_iload5 dX8_who_67 (g_iload1 dX8_who_69 (g_icmp_eq (tgt := 106) dX8_who_70 (by decide) (fun h70 => ?s106_6''') (fun h70 => g_iload6 dX8_who_73 (g_iload1 dX8_who_75 (g_icmp_ne (tgt := 109) dX8_who_76 (by decide) (fun h76 => ?s109_6'''') (fun h76 => g_goto (tgt := 106) dX8_who_79 (by decide) (?s106_6''''))))))))))
          all_goals first
            | exact yes (wp.mpr (by omega)) _ _
            | exact no (fun q => by have := wp.mp q; omega) _ _
    refine g_iconst ki_0 dX8_who_24 (g_istore3 dX8_who_25 rfl rfl (g_iconst ki_0 dX8_who_26 (g_istore4 dX8_who_27 rfl rfl (?s29_7))))
    exact loop (tanL L).length 0 _ _ (by omega)
theorem pow_nI {n : Nat} (h : n ≤ 6) : (1 : Int32) <<< (nI n &&& 31) - 1 = nI (2 ^ n - 1) ∧ (1 : Int32) <<< (nI n &&& 31) = nI (2 ^ n) := by
  have h1 : (1 : Int32) <<< (nI n &&& 31) = nI (2 ^ n) := by rw [bit_nI (by omega), Nat.one_shiftLeft]
  refine ⟨?_, h1⟩
  rw [h1, show (1 : Int32) = nI 1 from rfl]
  exact pk_sub (Nat.one_le_two_pow)
set_option maxRecDepth 20000 in
set_option maxHeartbeats 2000000 in
theorem c_X8_without (hN : g_N E) (hD : dgOK D) (hM : MD v f D) (hL : ML v f L) (hI : PLI D O0 L) (x : Int32) : g_Ci E mX8_without (d + 4) [.ref (b 0), .int x] (mW E b v t f) (fun z w => z = sWithout D L x ∧ ∃ v' f', w = mW E b v' t f' ∧ agV [34] v v' ∧ agF [11, 31, 32, 33] f f' ∧ MD v' f' D) := by
  have hn := hD.1
  have h64 := two_pow6 hn
  have hpos : 0 < 2 ^ D.1.length := Nat.two_pow_pos _
  have ep := t_nI (n := 2 ^ D.1.length - 1) (by omega)
  have hcp : ((2 ^ D.1.length : Nat) : Int) = 2 ^ D.1.length := by simp
  have ew : ((1 : Int32) <<< (v 12 &&& 31) - 1).toInt = ((2 ^ D.1.length - 1 : Nat) : Int) := by rw [hM.1, (pow_nI hn).1, ep]
  refine g_enterI hN.1 (by decide) [some (.ref (b 0)), some (.int x)] rfl (Nat.le_of_ble_eq_true rfl) (fun A Q hQ => ?_)
  have tcm2 := tc_m2; have tc1 := tc_1
  unfold sWithout at hQ
  refine g_iload1 dX8_without_0 (g_i2l dX8_without_1 (g_lconst kl_0 dX8_without_2 (g_iconst ki_1 dX8_without_3 (g_aload0 dX8_without_4 (g_mget fl_X8_103 mg_12 dX8_without_5 (g_ishl dX8_without_8 (g_iconst ki_1 dX8_without_9 (g_isub dX8_without_10 (g_i2l dX8_without_11 (r_X8_in hN mv_X8_106 dX8_without_12 (Nat.le_of_ble_eq_true rfl) (Nat.le_of_ble_eq_true rfl) rfl (g_if_ne (tgt := 21) dX8_without_15 (by decide) (fun h15 => g_aload0 dX8_without_21 (g_iload1 dX8_without_22 (?c23))) (fun h15 => g_bipush kb_m2 dX8_without_18 (g_iret rfl dX8_without_20 (Nat.le_of_ble_eq_true rfl) (Nat.le_of_ble_eq_true rfl) ?q20)))))))))))))
  all_goals try simp only [g_biz, Int32.toInt_toInt64, tl_m4611686018427387904, tl_m1, tl_0, tl_1, tl_2, tl_3, tl_4, tl_5, tl_9, tl_10, tl_20, tl_40, tl_43, tl_48, tl_57, tl_60, tl_97, tl_99, tl_122, tl_255] at *
  case q20 => rw [if_neg (by omega)] at hQ; exact hQ _ _ ⟨rfl, v, f, rfl, agV.rf, agF.rf, hM⟩
  case c23 =>
    rw [if_pos (by omega)] at hQ
    have hx : x = nI x.toInt.toNat := t_of (by omega)
    have ht := c_X8_tangle (b := b) (t := t) (d := d) hN hD hM hL hI (s := x.toInt.toNat) (by omega)
    rw [← hx] at ht
    refine g_V1v dX8_without_23 mv_X8_281 0 rfl rfl rfl (Nat.le_of_ble_eq_true rfl) (Nat.le_of_ble_eq_true rfl) (ht) (fun w1 hq => ?_)
    obtain ⟨v1, f1, rfl, hag, hagf, hO, hLf⟩ := hq
    refine g_aload0 dX8_without_26 (g_mget fl_X8_274 mg_34 dX8_without_27 (g_iret rfl dX8_without_30 (Nat.le_of_ble_eq_true rfl) (Nat.le_of_ble_eq_true rfl) ?q30_2))
    refine hQ _ _ ⟨?_, v1, f1, rfl, hag, hagf, hM.tg hag hagf hO⟩
    rw [hLf.2.1, woL_len]
set_option maxRecDepth 20000 in
set_option maxHeartbeats 2000000 in
theorem c_X8_count (hN : g_N E) (hD : dgOK D) (hM : MD v f D) (hL : ML v f L) (hI : PLI D O0 L) (h4 : v 4 = nI r) (h6 : v 6 = nI T.length) (x : Int32) : g_Ci E mX8_count (d + 4) [.ref (b 0), .int x] (mW E b v t f) (fun z w => z = sCount D r L T (v 3) x ∧ ∃ v' f', w = mW E b v' t f' ∧ agV [34] v v' ∧ agF [11, 31, 32, 33] f f' ∧ MD v' f' D) := by
  refine g_enterI hN.1 (by decide) [some (.ref (b 0)), some (.int x)] rfl (Nat.le_of_ble_eq_true rfl) (fun A Q hQ => ?_)
  have tcm2 := tc_m2; have tc0 := tc_0; have tc1 := tc_1; have tc2 := tc_2; have tc3 := tc_3; have tc4 := tc_4
  unfold sCount at hQ
  refine g_iload1 dX8_count_0 (g_i2l dX8_count_1 (g_lconst kl_0 dX8_count_2 (g_ldc2_w kj_X8_110 dX8_count_3 (r_X8_in hN mv_X8_106 dX8_count_6 (Nat.le_of_ble_eq_true rfl) (Nat.le_of_ble_eq_true rfl) rfl (g_if_ne (tgt := 15) dX8_count_9 (by decide) (fun h9 => g_iload1 dX8_count_15 (g_iconst ki_2 dX8_count_16 (g_icmp_ne (tgt := 30) dX8_count_17 (by decide) (fun h17 => g_iload1 dX8_count_30 (g_if_ne (tgt := 41) dX8_count_31 (by decide) (fun h31 => g_iload1 dX8_count_41 (g_iconst ki_1 dX8_count_42 (g_icmp_ne (tgt := 53) dX8_count_43 (by decide) (fun h43 => g_iload1 dX8_count_53 (g_iconst ki_3 dX8_count_54 (g_icmp_ne (tgt := 65) dX8_count_55 (by decide) (fun h55 => g_iload1 dX8_count_65 (g_iconst ki_4 dX8_count_66 (g_icmp_ne (tgt := 77) dX8_count_67 (by decide) (fun h67 => g_aload0 dX8_count_77 (g_mget fl_X8_252 mg_4 dX8_count_78 (g_iret rfl dX8_count_81 (Nat.le_of_ble_eq_true rfl) (Nat.le_of_ble_eq_true rfl) ?q81))) (fun h67 => g_aload0 dX8_count_70 (g_mget fl_X8_137 mg_6 dX8_count_71 (g_goto (tgt := 81) dX8_count_74 (by decide) (g_iret rfl dX8_count_81 (Nat.le_of_ble_eq_true rfl) (Nat.le_of_ble_eq_true rfl) ?q81'))))))) (fun h55 => g_aload0 dX8_count_58 (g_mget fl_X8_100 mg_3 dX8_count_59 (g_goto (tgt := 81) dX8_count_62 (by decide) (g_iret rfl dX8_count_81 (Nat.le_of_ble_eq_true rfl) (Nat.le_of_ble_eq_true rfl) ?q81''))))))) (fun h43 => g_aload0 dX8_count_46 (g_mget fl_X8_116 mg_15 dX8_count_47 (g_goto (tgt := 81) dX8_count_50 (by decide) (g_iret rfl dX8_count_81 (Nat.le_of_ble_eq_true rfl) (Nat.le_of_ble_eq_true rfl) ?q81'''))))))) (fun h31 => g_aload0 dX8_count_34 (g_mget fl_X8_103 mg_12 dX8_count_35 (g_goto (tgt := 81) dX8_count_38 (by decide) (g_iret rfl dX8_count_81 (Nat.le_of_ble_eq_true rfl) (Nat.le_of_ble_eq_true rfl) ?q81'''')))))) (fun h17 => g_aload0 dX8_count_20 (g_iconst ki_0 dX8_count_21 (?c22)))))) (fun h9 => g_bipush kb_m2 dX8_count_12 (g_iret rfl dX8_count_14 (Nat.le_of_ble_eq_true rfl) (Nat.le_of_ble_eq_true rfl) ?q14)))))))
  all_goals try simp only [g_biz, Int32.toInt_toInt64, tl_m4611686018427387904, tl_m1, tl_0, tl_1, tl_2, tl_3, tl_4, tl_5, tl_9, tl_10, tl_20, tl_40, tl_43, tl_48, tl_57, tl_60, tl_97, tl_99, tl_122, tl_255] at *
  all_goals try rw [if_neg (show ¬ x.toInt = 0 by omega)] at hQ
  all_goals try rw [if_neg (show ¬ x.toInt = 1 by omega)] at hQ
  all_goals try rw [if_neg (show ¬ x.toInt = 2 by omega)] at hQ
  all_goals try rw [if_neg (show ¬ x.toInt = 3 by omega)] at hQ
  all_goals try rw [if_neg (show ¬ x.toInt = 4 by omega)] at hQ
  all_goals try rw [if_neg (show ¬ x.toInt = 5 by omega)] at hQ
  all_goals try rw [if_pos (by omega)] at hQ
  case c22 =>
    refine g_V1v dX8_count_22 mv_X8_281 0 rfl rfl rfl (Nat.le_of_ble_eq_true rfl) (Nat.le_of_ble_eq_true rfl) (c_X8_tan0 (d := d) hN hD hM hL hI) (fun w1 hq => ?_)
    obtain ⟨v1, f1, rfl, hag, hagf, hM1, hL1, hLf⟩ := hq
    refine g_aload0 dX8_count_25 (g_mget fl_X8_274 mg_34 dX8_count_26 (g_iret rfl dX8_count_29 (Nat.le_of_ble_eq_true rfl) (Nat.le_of_ble_eq_true rfl) ?q29_2))
    exact hQ _ _ ⟨hLf.2.1, v1, f1, rfl, hag, hagf, hM1⟩
  all_goals first
    | exact hQ _ _ ⟨rfl, v, f, rfl, agV.rf, agF.rf, hM⟩
    | exact hQ _ _ ⟨hM.1, v, f, rfl, agV.rf, agF.rf, hM⟩
    | exact hQ _ _ ⟨hL.2.1, v, f, rfl, agV.rf, agF.rf, hM⟩
    | exact hQ _ _ ⟨h6, v, f, rfl, agV.rf, agF.rf, hM⟩
    | exact hQ _ _ ⟨h4, v, f, rfl, agV.rf, agF.rf, hM⟩
end S88
