section S90
variable {E : GE} {d : Nat} {b : Nat → Nat} {v : Nat → Int32} {t : Int64} {f : Nat → Nat → Int32} {D : Dg} {L Lt : List Cr} {O0 : List Nat} {T : List Nat} {r : Nat} {B : List Nat} {C : List Int32} {e : Nat → Nat}
abbrev mK5 : List Nat := [16, 17, 18, 19, 20, 21, 22, 23, 24, 25, 26, 28, 29, 30, 34]
set_option maxRecDepth 20000 in
set_option maxHeartbeats 4000000 in
theorem c_X8_cost (hN : g_N E) (hD : dgOK D) (hM : MD v f D) (hL : ML v f L) (hI : PLI D O0 L) (hr : v 4 = nI r) (hr6 : r < 6) (hTB : TB B r f) (hX : TX B C e) : g_Ci E mX8_cost (d + 65) [.ref (b 0)] (mW E b v t f) (fun z w => z.toInt = cosF D C e (tanL L) (tanL L).length ∧ ∃ v' t' f', w = mW E b v' t' f' ∧ agV mK5 v v' ∧ agF [11, 31, 32, 33] f f' ∧ MD v' f' D) := by
  have hlen := tanL_len L
  have hL40 := hL.1
  have hn := hD.1
  have hok := hI.ok hD
  refine g_enterI hN.1 (by decide) [some (.ref (b 0)), none, none] rfl (Nat.le_of_ble_eq_true rfl) (fun A Q hQ => ?_)
  have tc0 := tc_0; have tc1 := tc_1; have tc2 := tc_2; have tc10 := tc_10
  have tc10 := tc_10
  refine g_aload0 dX8_cost_0 (g_iconst ki_0 dX8_cost_1 (?c2))
  refine g_V1v dX8_cost_2 mv_X8_281 0 rfl rfl rfl (Nat.le_of_ble_eq_true rfl) (Nat.le_of_ble_eq_true rfl) (c_X8_tan0 (d := d + 61) hN hD hM hL hI) (fun w1 hq => ?_)
  obtain ⟨v1, f1, rfl, hag, hagf, hM1, hL1, hLf⟩ := hq
  obtain ⟨L1, L2, L3, L4, L5⟩ := id hLf
  have hTB1 : TB B r f1 := by
    obtain ⟨q1, q2, q3, q4⟩ := hTB
    exact ⟨q1, q2, by rw [hagf.at 2 rfl]; exact q3, by rw [hagf.at 1 rfl]; exact q4⟩
  have loop : ∀ u i (z : Int32) v2 t2, i + u = (tanL L).length → z.toInt = cosF D C e (tanL L) i → agV mK5 v v2 → agV mK3 v1 v2 → G E mX8_cost (d + 65) 0 0 A Q 0 0 9 [some (.ref (b 0)), some (.int z), some (.int (nI i))] [] (mW E b v2 t2 f1) := by
    intro u
    induction u with
    | zero =>
      intro i z v2 t2 hi hz h1 h2
      have ei := t_nI (n := i) (by omega)
      have e34 : (v2 34).toInt = (tanL L).length := by rw [h2.at 34 rfl, L2, t_nI (by omega)]
      refine g_iload2 dX8_cost_9 (g_aload0 dX8_cost_10 (g_mget fl_X8_274 mg_34 dX8_cost_11 (g_icmp_ge (tgt := 49) dX8_cost_14 (by decide) (fun h14 => g_iload1 dX8_cost_49 (g_iret rfl dX8_cost_50 (Nat.le_of_ble_eq_true rfl) (Nat.le_of_ble_eq_true rfl) ?q50_2)) (fun h14 => ?s17_2))))
      case s17_2 => omega
      case q50_2 => exact hQ _ _ ⟨by rw [hz, show i = (tanL L).length by omega], v2, t2, f1, rfl, h1, hagf, hM1.ag (S2 := []) h2 agF.rf rfl rfl⟩
    | succ u ih =>
      intro i z v2 t2 hi hz h1 h2
      have ei := t_nI (n := i) (by omega)
      have e34 : (v2 34).toInt = (tanL L).length := by rw [h2.at 34 rfl, L2, t_nI (by omega)]
      have g := getD_ac (l := tanL L) (i := i) (by omega)
      have hcm := tanL_sub (List.mem_of_getElem? g)
      have hnx : cosF D C e (tanL L) (i + 1) = cosF D C e (tanL L) i + rhI D C e 2 ((tanL L).getD i (0, 0, 0, 0, 0)).2.2.1 ((tanL L).getD i (0, 0, 0, 0, 0)).2.2.2.1 := rfl
      have hcb := cosF_b D C e (tanL L) i
      have hcb2 := cosF_b D C e (tanL L) (i + 1)
      generalize (tanL L).getD i (0, 0, 0, 0, 0) = c at *
      obtain ⟨-, -, k1, k2, -⟩ := hok c hcm
      have p1 : f1 33 i = nI (ofN c) := L5.at (by rw [List.getElem?_map, g]; rfl)
      have d1 : nI (ofN c) / 10 = nI c.2.2.1 := by
        rw [show (10 : Int32) = nI 10 from rfl, pk_div (by unfold ofN; omega) (by omega) (by omega)]
        unfold ofN
        rw [show (10 * c.2.2.1 + c.2.2.2.1) / 10 = c.2.2.1 by omega]
      have d2 : nI (ofN c) - nI (ofN c) / 10 * 10 = nI c.2.2.2.1 := by
        rw [show (10 : Int32) = nI 10 from rfl, pk_rem (by unfold ofN; omega) (by omega) (by omega)]
        unfold ofN
        rw [show (10 * c.2.2.1 + c.2.2.2.1) % 10 = c.2.2.2.1 by omega]
      refine g_iload2 dX8_cost_9 (g_aload0 dX8_cost_10 (g_mget fl_X8_274 mg_34 dX8_cost_11 (g_icmp_ge (tgt := 49) dX8_cost_14 (by decide) (fun h14 => ?s49_3) (fun h14 => g_iload1 dX8_cost_17 (g_aload0 dX8_cost_18 (g_iconst ki_2 dX8_cost_19 (g_aload0 dX8_cost_20 (g_mget fl_X8_50 mg_33 dX8_cost_21 (g_iload2 dX8_cost_24 (g_mia ma_33 dX8_cost_25 ?b25_3 (g_bipush kb_10 dX8_cost_26 (g_idiv dX8_cost_28 ?z28_3 (g_aload0 dX8_cost_29 (g_mget fl_X8_50 mg_33 dX8_cost_30 (g_iload2 dX8_cost_33 (g_mia ma_33 dX8_cost_34 ?b34_3 (g_bipush kb_10 dX8_cost_35 (g_irem dX8_cost_37 ?z37_3 (?c38_3)))))))))))))))))))
      case s49_3 => omega
      case b25_3 => omega
      case z28_3 => decide
      case b34_3 => omega
      case z37_3 => decide
      case c38_3 =>
        rw [ei, Int.toNat_natCast, p1, d2, d1]
        refine g_V3i dX8_cost_38 mv_X8_266 0 rfl rfl rfl (Nat.le_of_ble_eq_true rfl) (Nat.le_of_ble_eq_true rfl) (c_X8_told2 (d := d) (part := 2) hN hD (hM1.ag h2 agF.rf rfl (S2 := []) rfl) (by rw [h2.at 4 rfl, hag.at 4 rfl]; exact hr) hr6 hTB1 hX (by omega) k1 k2) (fun z1_ w1 hq => ?_)
        obtain ⟨hz1, v3, t3, rfl, h3⟩ := hq
        refine g_iadd dX8_cost_41 (g_istore1 dX8_cost_42 rfl rfl (g_iinc2 ki_1 dX8_cost_43 rfl rfl (g_goto (tgt := 9) dX8_cost_46 (by decide) (?s9_4))))
        rw [nI_1]
        refine ih (i + 1) _ v3 t3 (by omega) ?_ (h1.tr (h3.wk rfl)) (h2.tr h3)
        rw [t_add (by omega) (by omega), hz, hz1, hnx]
  refine g_iconst ki_0 dX8_cost_5 (g_istore1 dX8_cost_6 rfl rfl (g_iconst ki_0 dX8_cost_7 (g_istore2 dX8_cost_8 rfl rfl (?s9_5))))
  exact loop (tanL L).length 0 0 v1 t (by omega) (by show (0 : Int32).toInt = 0; decide) (hag.wk rfl) agV.rf
set_option maxRecDepth 20000 in
set_option maxHeartbeats 4000000 in
theorem c_X8_drawn (hN : g_N E) (hD : dgOK D) (hM : MD v f D) (z m : Int32) : g_Ci E mX8_drawn (d + 3) [.ref (b 0), .int z, .int m] (mW E b v t f) (fun y w => y = sDrawn D z m ∧ ∃ v' f', w = mW E b v' t f' ∧ agV [34] v v' ∧ agF [31, 32, 33] f f') := by
  obtain ⟨n0, n1, n2⟩ := hM.n1 hD.1
  have hn6 := hD.1
  refine g_enterI hN.1 (by decide) [some (.ref (b 0)), some (.int z), some (.int m), none, none] rfl (Nat.le_of_ble_eq_true rfl) (fun A Q hQ => ?_)
  have tcm2 := tc_m2; have tc0 := tc_0; have tc1 := tc_1; have tc2 := tc_2; have tc8 := tc_8; have tc16 := tc_16; have tc12345 := tc_12345; have tc1103515245 := tc_1103515245
  have tc40 := tc_40
  unfold sDrawn at hQ
  have loop : ∀ (u i : Nat) (z1 : Int32) (l : List Cr) (v2 : Nat → Int32) (f2 : Nat → Nat → Int32) (mm : Nat), mm ≤ 40 → m.toInt = mm → 2 ≤ D.1.length → i + u = mm → drF (D.1.length - 1) mm z [] = drF (D.1.length - 1) u z1 l → l.length ≤ i → crS l → MLf v2 f2 l → agV [34] v v2 → agF [31, 32, 33] f f2 → G E mX8_drawn (d + 3) 0 0 A Q 0 0 35 [some (.ref (b 0)), some (.int z), some (.int m), some (.int z1), some (.int (nI i))] [] (mW E b v2 t f2) := by
    intro u
    induction u with
    | zero =>
      intro i z1 l v2 f2 mm hmm hm h2 hi hf hl hS hLf hag hagf
      have ei := t_nI (n := i) (by omega)
      rw [if_pos (by omega)] at hQ
      unfold sDr at hQ
      rw [if_neg (by omega), show m.toInt.toNat = mm by omega, hf] at hQ
      refine g_iload4 dX8_drawn_35 (g_iload2 dX8_drawn_37 (g_icmp_ge (tgt := 79) dX8_drawn_38 (by decide) (fun h38 => g_aload0 dX8_drawn_79 (g_mget fl_X8_274 mg_34 dX8_drawn_80 (g_iret rfl dX8_drawn_83 (Nat.le_of_ble_eq_true rfl) (Nat.le_of_ble_eq_true rfl) ?q83))) (fun h38 => ?s41)))
      case s41 => omega
      case q83 => exact hQ _ _ ⟨hLf.2.1, v2, f2, rfl, hag, hagf⟩
    | succ u ih =>
      intro i z1 l v2 f2 mm hmm hm h2 hi hf hl hS hLf hag hagf
      have ei := t_nI (n := i) (by omega)
      have e12 : v2 12 - 1 = nI (D.1.length - 1) := by rw [hag.at 12 rfl, hM.1, show (1 : Int32) = nI 1 from rfl]; exact pk_sub (by omega)
      rw [drF] at hf
      have hz : z1 * 1103515245 + 12345 = dzF z1 := rfl
      have hu8 : ((dzF z1).toUInt32 >>> ((8 : Int32).toUInt32 &&& Int32.toUInt32 31)).toInt32 = nI ((dzF z1).toBitVec.toNat / 256) := usr_nI (dzF z1) 8 8 (by omega) (by decide)
      have hu16 : ((dzF z1).toUInt32 >>> ((16 : Int32).toUInt32 &&& Int32.toUInt32 31)).toInt32 = nI ((dzF z1).toBitVec.toNat / 65536) := usr_nI (dzF z1) 16 16 (by omega) (by decide)
      have hb := (dzF z1).toBitVec.isLt
      have hr1 := pk_rem (a := (dzF z1).toBitVec.toNat / 256) (d := D.1.length - 1) (by omega) (by omega) (by omega)
      have hr2 := pk_rem (a := (dzF z1).toBitVec.toNat / 65536) (d := 2) (by omega) (by omega) (by omega)
      have hm1 := Nat.mod_lt ((dzF z1).toBitVec.toNat / 256) (show D.1.length - 1 > 0 by omega)
      have hm2 := Nat.mod_lt ((dzF z1).toBitVec.toNat / 65536) (show 2 > 0 by omega)
      have eP2 := t_nI (n := D.1.length - 1) (by omega)
      refine g_iload4 dX8_drawn_35 (g_iload2 dX8_drawn_37 (g_icmp_ge (tgt := 79) dX8_drawn_38 (by decide) (fun h38 => ?s79_2) (fun h38 => g_iload3 dX8_drawn_41 (g_ldc_w kc_X8_342 dX8_drawn_42 (g_imul dX8_drawn_45 (g_sipush ks_12345 dX8_drawn_46 (g_iadd dX8_drawn_49 (g_istore3 dX8_drawn_50 rfl rfl (g_aload0 dX8_drawn_51 (g_iload3 dX8_drawn_52 (g_bipush kb_8 dX8_drawn_53 (g_iushr dX8_drawn_55 (g_aload0 dX8_drawn_56 (g_mget fl_X8_103 mg_12 dX8_drawn_57 (g_iconst ki_1 dX8_drawn_60 (g_isub dX8_drawn_61 (g_irem dX8_drawn_62 ?z62_2 (g_iload3 dX8_drawn_63 (g_bipush kb_16 dX8_drawn_64 (g_iushr dX8_drawn_66 (g_iconst ki_2 dX8_drawn_67 (g_irem dX8_drawn_68 ?z68_2 (g_iconst ki_0 dX8_drawn_69 (?c70_2))))))))))))))))))))))))
      case s79_2 => omega
      case z62_2 =>
        rw [e12]
        intro q
        rw [q] at eP2
        have : (0 : Int32).toInt = 0 := by decide
        omega
      case z68_2 => decide
      case c70_2 =>
        rw [hz, hu8, hu16, e12, hr1]
        have hr2' : nI ((dzF z1).toBitVec.toNat / 65536) - nI ((dzF z1).toBitVec.toNat / 65536) / 2 * 2 = nI ((dzF z1).toBitVec.toNat / 65536 % 2) := hr2
        rw [hr2']
        have hc := c_X8_comes (b := b) (t := t) (d := d) (c := dzC (D.1.length - 1) (dzF z1)) hN hLf hS (by omega) (by unfold dzC; dsimp only; omega)
        refine g_V3v dX8_drawn_70 mv_X8_277 0 rfl rfl rfl (Nat.le_of_ble_eq_true rfl) (Nat.le_of_ble_eq_true rfl) (hc) (fun w1 hq => ?_)
        obtain ⟨v3, f3, rfl, g1, g2, g3⟩ := hq
        refine g_iinc4 ki_1 dX8_drawn_73 rfl rfl (g_goto (tgt := 35) dX8_drawn_76 (by decide) (?s35_3))
        rw [nI_1]
        have hll := layL_len l (dzC (D.1.length - 1) (dzF z1))
        exact ih (i + 1) _ _ v3 f3 mm hmm hm h2 (by omega) hf (by omega) (layL_crS hS (by unfold dzC; dsimp only; omega)) g3 (hag.tr g1) (hagf.tr g2)
  refine g_iload2 dX8_drawn_0 (g_i2l dX8_drawn_1 (g_lconst kl_0 dX8_drawn_2 (g_ldc2_w kj_X8_340 dX8_drawn_3 (r_X8_in hN mv_X8_106 dX8_drawn_6 (Nat.le_of_ble_eq_true rfl) (Nat.le_of_ble_eq_true rfl) rfl (g_if_ne (tgt := 15) dX8_drawn_9 (by decide) (fun h9 => g_aload0 dX8_drawn_15 (g_mget fl_X8_103 mg_12 dX8_drawn_16 (g_iconst ki_2 dX8_drawn_19 (g_icmp_ge (tgt := 25) dX8_drawn_20 (by decide) (fun h20 => g_iload1 dX8_drawn_25 (g_istore3 dX8_drawn_26 rfl rfl (g_aload0 dX8_drawn_27 (g_iconst ki_0 dX8_drawn_28 (g_mput fl_X8_274 fp_7_34 ms_34 rfl rfl rfl dX8_drawn_29 (g_iconst ki_0 dX8_drawn_32 (g_istore4 dX8_drawn_33 rfl rfl (?s35_4)))))))) (fun h20 => g_iconst ki_0 dX8_drawn_23 (g_iret rfl dX8_drawn_24 (Nat.le_of_ble_eq_true rfl) (Nat.le_of_ble_eq_true rfl) ?q24_4)))))) (fun h9 => g_bipush kb_m2 dX8_drawn_12 (g_iret rfl dX8_drawn_14 (Nat.le_of_ble_eq_true rfl) (Nat.le_of_ble_eq_true rfl) ?q14_4)))))))
  all_goals try simp only [g_biz, Int32.toInt_toInt64, tl_m4611686018427387904, tl_m1, tl_0, tl_1, tl_2, tl_3, tl_4, tl_5, tl_9, tl_10, tl_20, tl_40, tl_43, tl_48, tl_57, tl_60, tl_97, tl_99, tl_122, tl_255] at *
  case q14_4 => rw [if_neg (by omega)] at hQ; exact hQ _ _ ⟨rfl, v, f, rfl, agV.rf, agF.rf⟩
  case q24_4 =>
    rw [if_pos (by omega)] at hQ
    unfold sDr at hQ
    rw [if_pos (by omega)] at hQ
    exact hQ _ _ ⟨rfl, v, f, rfl, agV.rf, agF.rf⟩
  case s35_4 =>
    refine loop m.toInt.toNat 0 z [] _ f m.toInt.toNat (by omega) (by omega) (by omega) (by omega) rfl (Nat.le_refl _) (fun x hx => by cases hx) ⟨Nat.zero_le _, upd_s, ?_, ?_, ?_⟩ (agV.rf.up 34 _ rfl) agF.rf
    all_goals exact fun i x hx => by simp at hx
end S90
