section S80
variable {E : GE} {d : Nat} {b : Nat → Nat} {v : Nat → Int32} {t : Int64} {f : Nat → Nat → Int32} {B : List Nat} {ti : Nat} {P : PS} {o : Nat}
set_option maxRecDepth 20000 in
set_option maxHeartbeats 4000000 in
theorem c_not (hN : g_N E) {F : Nat} (ih2 : McL E b d (F + 1) 2) (ih4 : McL E b (d + 1) F 4) : McL E b d (F + 2) 2 := by
  intro o P v t f B ti ho hne hB h29 h28 hT hV
  show g_Ci E mX8_not _ _ _ _
  generalize hF : prs B (F + 2) 2 o P = r
  rw [prs, if_neg (by decide), if_neg (by decide), if_pos rfl] at hF
  refine g_enterI hN.1 (by decide) [some (.ref (b 0)), none, none, none] rfl (Nat.le_of_ble_eq_true rfl) (fun A Q hQ => ?_)
  have tc0 := tc_0; have tc1 := tc_1; have tc60 := tc_60; have tc61 := tc_61; have tc110 := tc_110; have tc111 := tc_111; have tc116 := tc_116
  refine g_aload0 dX8_not_0 (g_bipush kb_110 dX8_not_1 (g_bipush kb_111 dX8_not_3 (g_bipush kb_116 dX8_not_5 (g_iconst ki_0 dX8_not_7 (g_iconst ki_0 dX8_not_8 (g_iconst ki_0 dX8_not_9 (g_iconst ki_0 dX8_not_10 (g_iconst ki_0 dX8_not_11 (?c12)))))))))
  refine g_V8i dX8_not_12 mv_X8_190 0 rfl rfl rfl (Nat.le_of_ble_eq_true rfl) (Nat.le_of_ble_eq_true rfl) (c_isW11 (d := d + F + 8) hN hB hT h29) (fun r1 w1 hq => ?_)
  obtain ⟨rfl, rfl⟩ := hq
  refine g_if_eq (tgt := 52) dX8_not_15 (by decide) (fun h15 => g_aload0 dX8_not_52 (?c53_2)) (fun h15 => g_aload0 dX8_not_18 (?c19_2))
  all_goals try simp only [g_biz, Int32.toInt_toInt64, tl_m4611686018427387904, tl_m1, tl_0, tl_1, tl_2, tl_3, tl_4, tl_5, tl_9, tl_10, tl_20, tl_40, tl_43, tl_48, tl_57, tl_60, tl_97, tl_99, tl_122, tl_255] at *
  case c19_2 =>
    have h11 : P.1 = 11 := by omega
    rw [if_pos h11] at hF
    refine g_V0i dX8_not_19 mv_X8_215 0 rfl rfl rfl (Nat.le_of_ble_eq_true rfl) (Nat.le_of_ble_eq_true rfl) (c_X8_opens (d := d + F + 7) hN hB hT hV (by omega) h29 h28 ho) (fun r1 w1 hq => ?_)
    by_cases h5 : 5 ≤ o
    · obtain ⟨rfl, rfl⟩ := hq.1 h5
      rw [if_pos h5] at hF
      refine g_if_ne (tgt := 27) dX8_not_22 (by decide) (fun h22 => g_aload0 dX8_not_27 (?c28_3)) (fun h22 => g_iconst ki_0 dX8_not_25 (g_iret rfl dX8_not_26 (Nat.le_of_ble_eq_true rfl) (Nat.le_of_ble_eq_true rfl) ?q26_3))
      case q26_3 => exact hQ _ _ (McP.bad (by rw [← hF]) rfl agV.rf (by rw [← hF]; exact hT.1))
      case c28_3 => omega
    · obtain ⟨rfl, v1, t1, rfl, hag, g28, hT1⟩ := hq.2 h5
      rw [if_neg h5] at hF
      obtain ⟨hV1, hat⟩ := hV.next (by omega)
      refine g_if_ne (tgt := 27) dX8_not_22 (by decide) (fun h22 => g_aload0 dX8_not_27 (?c28_4)) (fun h22 => g_iconst ki_0 dX8_not_25 (g_iret rfl dX8_not_26 (Nat.le_of_ble_eq_true rfl) (Nat.le_of_ble_eq_true rfl) ?q26_4))
      case q26_4 => omega
      case c28_4 =>
        have hc := ih2 (o + 1) _ v1 t1 f B ti (by omega) (by unfold needN at *; omega) (hB.ag hag rfl rfl) (by rw [hag.at 29 rfl]; exact h29) g28 hT1 hV1
        generalize hr1 : prs B (F + 1) 2 (o + 1) (lexP B P.2.2.1) = r1 at *
        refine g_V0i dX8_not_28 mv_X8_234 0 rfl rfl rfl (Nat.le_of_ble_eq_true rfl) (Nat.le_of_ble_eq_true rfl) (hc) (fun z1_ w1 hq => ?_)
        obtain ⟨v2, t2, rfl, hag2, q1, q2⟩ := hq
        have fin : ∀ y, y = g_bi (z1_.toInt = 0) → McP E b v f B o r y (mW E b (upd v2 28 (v2 28 - 1)) t2 f) := by
          intro y hy
          cases hb : r1.1 with
          | true =>
            obtain ⟨j1, j2, j3, j4⟩ := q1 hb
            refine ⟨_, t2, rfl, ((hag.wk rfl).tr hag2).up 28 _ rfl, fun _ => ⟨?_, ?_, ?_, fun s => ?_⟩, fun q => ?_⟩
            · rw [upd_o (by decide)]; exact j1
            · rw [upd_s, j2, nI_pred]
            · rw [← hF, upd_o (by decide), upd_o (by decide), upd_o (by decide)]; exact j3
            · rw [← hF]
              dsimp only
              rw [← nmV_ag (hag.wk (S2 := mK) rfl), List.foldl_append, j4 s, hy]
              rfl
            · rw [← hF] at q; dsimp only at q; rw [hb] at q; cases q
          | false =>
            obtain ⟨j1, j2⟩ := q2 hb
            refine McP.bad2 (by rw [← hF]; exact hb) rfl (((hag.wk rfl).tr hag2).up 28 _ rfl) ?_ ?_
            · rw [upd_o (by decide)]; exact j1
            · rw [← hF, upd_o (by decide)]; exact j2
        refine g_istore1 dX8_not_31 rfl rfl (g_aload0 dX8_not_32 (g_dup dX8_not_33 rfl (g_mget fl_X8_181 mg_28 dX8_not_34 (g_iconst ki_1 dX8_not_37 (g_isub dX8_not_38 (g_mput fl_X8_181 fp_7_28 ms_28 rfl rfl rfl dX8_not_39 (g_iload1 dX8_not_42 (g_if_ne (tgt := 50) dX8_not_43 (by decide) (fun h43 => g_iconst ki_0 dX8_not_50 (g_iret rfl dX8_not_51 (Nat.le_of_ble_eq_true rfl) (Nat.le_of_ble_eq_true rfl) ?q51_5)) (fun h43 => g_iconst ki_1 dX8_not_46 (g_goto (tgt := 51) dX8_not_47 (by decide) (g_iret rfl dX8_not_51 (Nat.le_of_ble_eq_true rfl) (Nat.le_of_ble_eq_true rfl) ?q51_5')))))))))))
        case q51_5 => exact hQ _ _ (fin _ (by rw [g_bi0 (by omega)]))
        case q51_5' => exact hQ _ _ (fin _ (by rw [g_bi1 (by omega)]))
  case c53_2 =>
    rw [if_neg (by omega)] at hF
    rw [prs, if_neg (by decide), if_neg (by decide), if_neg (by decide), if_pos rfl] at hF
    have hne4 : needN 4 o ≤ F := by unfold needN at *; omega
    have hc := ih4 o P v t f B ti ho hne4 hB h29 h28 hT hV
    rw [show d + 1 + F + 10 = d + F + 11 by omega] at hc
    have hPG := prs_PG B F 4 o P hV
    generalize hr1 : prs B F 4 o P = r1 at *
    refine g_V0i dX8_not_53 mv_X8_237 0 rfl rfl rfl (Nat.le_of_ble_eq_true rfl) (Nat.le_of_ble_eq_true rfl) (hc) (fun z1_ w1 hq => ?_)
    obtain ⟨v2, t2, rfl, hag2, q1, q2⟩ := hq
    cases hb : r1.1 with
    | false =>
      obtain ⟨j1, j2⟩ := q2 hb
      rw [if_neg (fun q => by rw [hb] at q; cases q.1)] at hF
      have z29 : (v2 29).toInt = 1 := by rw [j1]; decide
      refine g_istore1 dX8_not_56 rfl rfl (g_aload0 dX8_not_57 (g_bipush kb_60 dX8_not_58 (r_X8_isSign hN mv_X8_212 dX8_not_60 (Nat.le_of_ble_eq_true rfl) (Nat.le_of_ble_eq_true rfl) rfl (g_if_ne (tgt := 77) dX8_not_63 (by decide) (fun h63 => ?s77_6) (fun h63 => g_aload0 dX8_not_66 (g_bipush kb_61 dX8_not_67 (r_X8_isSign hN mv_X8_212 dX8_not_69 (Nat.le_of_ble_eq_true rfl) (Nat.le_of_ble_eq_true rfl) rfl (g_if_ne (tgt := 77) dX8_not_72 (by decide) (fun h72 => ?s77_6') (fun h72 => g_iload1 dX8_not_75 (g_iret rfl dX8_not_76 (Nat.le_of_ble_eq_true rfl) (Nat.le_of_ble_eq_true rfl) ?q76_6))))))))))
      all_goals try simp only [g_biz, Int32.toInt_toInt64, tl_m4611686018427387904, tl_m1, tl_0, tl_1, tl_2, tl_3, tl_4, tl_5, tl_9, tl_10, tl_20, tl_40, tl_43, tl_48, tl_57, tl_60, tl_97, tl_99, tl_122, tl_255] at *
      all_goals try omega
      case q76_6 => exact hQ _ _ (McP.bad2 (by rw [← hF]; exact hb) rfl hag2 j1 (by rw [← hF]; exact j2))
    | true =>
      obtain ⟨j1, j2, j3, j4⟩ := q1 hb
      obtain ⟨g5, g6⟩ := hPG hb
      have z29 : (v2 29).toInt = 0 := by rw [j1]; decide
      have s60 := j3.sign (j := 6) (c := 60) rfl
      have s61 := j3.sign (j := 7) (c := 61) rfl
      have hlg := lg_c t2 60
      have body : (r1.2.1.1 = 18 ∨ r1.2.1.1 = 19) → G E mX8_not (d + (F + 2) + 10) 0 0 A Q 0 0 93 [some (.ref (b 0)), some (.int z1_), none, none] [.int (g_bi (r1.2.1.1 = 18))] (mW E b v2 t2 f) := by
        intro hop
        have zb := g_biz (p := (r1.2.1.1 = 18))
        rw [if_pos ⟨hb, hop⟩] at hF
        obtain ⟨hV3, hat3⟩ := g5.next (by omega)
        refine g_istore2 dX8_not_93 rfl rfl (g_aload0 dX8_not_94 (?c95_7))
        refine g_V0v dX8_not_95 mv_X8_187 0 rfl rfl rfl (Nat.le_of_ble_eq_true rfl) (Nat.le_of_ble_eq_true rfl) (c_mnext (d := d + F + 8) hN (hB.ag hag2 rfl rfl) j3 g5 (by omega)) (fun w1 hq => ?_)
        obtain ⟨v3, t3, rfl, hag3, hT3⟩ := hq
        have hag3' : agV mK v v3 := hag2.tr (hag3.wk rfl)
        refine g_aload0 dX8_not_98 (?c99_8)
        have hc2 := ih4 o _ v3 t3 f B ti ho hne4 (hB.ag hag3' rfl rfl) (by rw [hag3.at 29 rfl]; exact j1) (by rw [hag3.at 28 rfl]; exact j2) hT3 hV3
        rw [show d + 1 + F + 10 = d + F + 11 by omega] at hc2
        generalize hr2 : prs B F 4 o (lexP B r1.2.1.2.2.1) = r2 at *
        refine g_V0i dX8_not_99 mv_X8_237 0 rfl rfl rfl (Nat.le_of_ble_eq_true rfl) (Nat.le_of_ble_eq_true rfl) (hc2) (fun z2_ w1 hq => ?_)
        obtain ⟨v4, t4, rfl, hag4, p1, p2⟩ := hq
        have fin : ∀ y, (r1.2.1.1 = 18 → y = g_bi (z1_.toInt < z2_.toInt)) → (r1.2.1.1 = 19 → y = g_bi (z1_.toInt = z2_.toInt)) → McP E b v f B o r y (mW E b v4 t4 f) := by
          intro y hy1 hy2
          cases hb2 : r2.1 with
          | true =>
            obtain ⟨i1, i2, i3, i4⟩ := p1 hb2
            rw [nmV_ag hag3'] at i4
            refine ⟨v4, t4, rfl, hag3'.tr hag4, fun _ => ⟨i1, i2, by rw [← hF]; exact i3, fun s => ?_⟩, fun q => by rw [← hF] at q; dsimp only at q; rw [hb2] at q; cases q⟩
            rw [← hF]
            dsimp only
            rcases hop with h18 | h19
            · rw [h18]; exact evStep (by omega) j4 i4 (by rw [jn_18, hy1 h18]) s
            · rw [h19]; exact evStep (by omega) j4 i4 (by rw [jn_19, hy2 h19]) s
          | false =>
            obtain ⟨i1, i2⟩ := p2 hb2
            exact McP.bad2 (by rw [← hF]; exact hb2) rfl (hag3'.tr hag4) i1 (by rw [← hF]; exact i2)
        refine g_istore3 dX8_not_102 rfl rfl (g_iload2 dX8_not_103 (g_if_eq (tgt := 115) dX8_not_104 (by decide) (fun h104 => g_iload1 dX8_not_115 (g_iload3 dX8_not_116 (g_icmp_ne (tgt := 124) dX8_not_117 (by decide) (fun h117 => g_iconst ki_0 dX8_not_124 (g_iret rfl dX8_not_125 (Nat.le_of_ble_eq_true rfl) (Nat.le_of_ble_eq_true rfl) ?q125_9)) (fun h117 => g_iconst ki_1 dX8_not_120 (g_goto (tgt := 125) dX8_not_121 (by decide) (g_iret rfl dX8_not_125 (Nat.le_of_ble_eq_true rfl) (Nat.le_of_ble_eq_true rfl) ?q125_9')))))) (fun h104 => g_iload1 dX8_not_107 (g_iload3 dX8_not_108 (g_icmp_ge (tgt := 124) dX8_not_109 (by decide) (fun h109 => g_iconst ki_0 dX8_not_124 (g_iret rfl dX8_not_125 (Nat.le_of_ble_eq_true rfl) (Nat.le_of_ble_eq_true rfl) ?q125_9'')) (fun h109 => g_goto (tgt := 120) dX8_not_112 (by decide) (g_iconst ki_1 dX8_not_120 (g_goto (tgt := 125) dX8_not_121 (by decide) (g_iret rfl dX8_not_125 (Nat.le_of_ble_eq_true rfl) (Nat.le_of_ble_eq_true rfl) ?q125_9''')))))))))
        all_goals try simp only [g_biz, Int32.toInt_toInt64, tl_m4611686018427387904, tl_m1, tl_0, tl_1, tl_2, tl_3, tl_4, tl_5, tl_9, tl_10, tl_20, tl_40, tl_43, tl_48, tl_57, tl_60, tl_97, tl_99, tl_122, tl_255] at *
        all_goals refine hQ _ _ (fin _ (fun q => ?_) (fun q => ?_))
        all_goals first | omega | (rw [g_bi1 (by omega)]; done) | (rw [g_bi0 (by omega)])
      refine g_istore1 dX8_not_56 rfl rfl (g_aload0 dX8_not_57 (g_bipush kb_60 dX8_not_58 (r_X8_isSign hN mv_X8_212 dX8_not_60 (Nat.le_of_ble_eq_true rfl) (Nat.le_of_ble_eq_true rfl) rfl (g_if_ne (tgt := 77) dX8_not_63 (by decide) (fun h63 => g_aload0 dX8_not_77 (g_mget fl_X8_166 mg_27 dX8_not_78 (g_ldc2_w kj_X8_240 dX8_not_81 (g_lcmp dX8_not_84 (g_if_ne (tgt := 92) dX8_not_85 (by decide) (fun h85 => g_iconst ki_0 dX8_not_92 (?s93_10)) (fun h85 => g_iconst ki_1 dX8_not_88 (g_goto (tgt := 93) dX8_not_89 (by decide) (?s93_10')))))))) (fun h63 => g_aload0 dX8_not_66 (g_bipush kb_61 dX8_not_67 (r_X8_isSign hN mv_X8_212 dX8_not_69 (Nat.le_of_ble_eq_true rfl) (Nat.le_of_ble_eq_true rfl) rfl (g_if_ne (tgt := 77) dX8_not_72 (by decide) (fun h72 => g_aload0 dX8_not_77 (g_mget fl_X8_166 mg_27 dX8_not_78 (g_ldc2_w kj_X8_240 dX8_not_81 (g_lcmp dX8_not_84 (g_if_ne (tgt := 92) dX8_not_85 (by decide) (fun h85 => g_iconst ki_0 dX8_not_92 (?s93_10'')) (fun h85 => g_iconst ki_1 dX8_not_88 (g_goto (tgt := 93) dX8_not_89 (by decide) (?s93_10''')))))))) (fun h72 => g_iload1 dX8_not_75 (g_iret rfl dX8_not_76 (Nat.le_of_ble_eq_true rfl) (Nat.le_of_ble_eq_true rfl) ?q76_10))))))))))
      all_goals try simp only [g_biz, Int32.toInt_toInt64, tl_m4611686018427387904, tl_m1, tl_0, tl_1, tl_2, tl_3, tl_4, tl_5, tl_9, tl_10, tl_20, tl_40, tl_43, tl_48, tl_57, tl_60, tl_97, tl_99, tl_122, tl_255] at *
      all_goals try simp only [tc60, tc61] at *
      case q76_10 =>
        rw [if_neg (by omega)] at hF
        exact hQ _ _ ⟨v2, t2, rfl, hag2, fun _ => ⟨j1, j2, by rw [← hF]; exact j3, fun s => by rw [← hF]; exact j4 s⟩, fun q => by rw [← hF, hb] at q; cases q⟩
      all_goals
        have hb2 := body (by omega)
        first
          | (rw [g_bi1 (by split at hlg <;> omega)] at hb2; exact hb2)
          | (rw [g_bi0 (by split at hlg <;> omega)] at hb2; exact hb2)
theorem needN_1 (L o : Nat) (hL : L ≤ 6) : 1 ≤ needN L o := by unfold needN; omega
theorem c_levels (hN : g_N E) : ∀ (F L : Nat), (L = 0 ∨ L = 1 ∨ L = 2 ∨ L = 4 ∨ L = 5 ∨ L = 6) → ∀ d, McL E b d F L := by
  have step : ∀ F : Nat, (∀ L, (L = 0 ∨ L = 1 ∨ L = 2 ∨ L = 4 ∨ L = 5 ∨ L = 6) → ∀ d, McL E b d F L) → ∀ L, (L = 0 ∨ L = 1 ∨ L = 4 ∨ L = 5 ∨ L = 6) → ∀ d, McL E b d (F + 1) L := by
    intro F ih L hL d
    rcases hL with rfl | rfl | rfl | rfl | rfl
    · exact c_either hN (ih 1 (by omega) d)
    · exact c_both hN (ih 2 (by omega) d)
    · exact c_added hN (ih 5 (by omega) d)
    · exact c_term hN (ih 6 (by omega) d)
    · exact c_atom hN (ih 0 (by omega) d) (ih 6 (by omega) d)
  have h0 : ∀ L, (L = 0 ∨ L = 1 ∨ L = 2 ∨ L = 4 ∨ L = 5 ∨ L = 6) → ∀ d, McL E b d 0 L := by
    intro L hL d o P v t f B ti ho hne
    have := needN_1 L o (by omega)
    omega
  have h1 : ∀ L, (L = 0 ∨ L = 1 ∨ L = 2 ∨ L = 4 ∨ L = 5 ∨ L = 6) → ∀ d, McL E b d 1 L := by
    intro L hL d
    by_cases h2 : L = 2
    · subst h2
      intro o P v t f B ti ho hne
      unfold needN at hne
      omega
    · exact step 0 h0 L (by omega) d
  have both : ∀ F : Nat, (∀ L, (L = 0 ∨ L = 1 ∨ L = 2 ∨ L = 4 ∨ L = 5 ∨ L = 6) → ∀ d, McL E b d F L) ∧ (∀ L, (L = 0 ∨ L = 1 ∨ L = 2 ∨ L = 4 ∨ L = 5 ∨ L = 6) → ∀ d, McL E b d (F + 1) L) := by
    intro F
    induction F with
    | zero => exact ⟨h0, h1⟩
    | succ F ih =>
      refine ⟨ih.2, fun L hL d => ?_⟩
      by_cases h2 : L = 2
      · subst h2
        exact c_not hN (ih.2 2 (by omega) d) (ih.1 4 (by omega) (d + 1))
      · exact step (F + 1) ih.2 L (by omega) d
  exact fun F => (both F).1
def ptF (B : List Nat) (p : Nat) (P : PS) : PR :=
  if P.1 = 6 + p then
    if (prs B 42 0 0 (lexP B P.2.2.1)).1 = true ∧ (prs B 42 0 0 (lexP B P.2.2.1)).2.1.1 = 14 then (true, lexP B (prs B 42 0 0 (lexP B P.2.2.1)).2.1.2.2.1, (prs B 42 0 0 (lexP B P.2.2.1)).2.2)
    else (false, (prs B 42 0 0 (lexP B P.2.2.1)).2.1, (prs B 42 0 0 (lexP B P.2.2.1)).2.2)
  else (false, P, [])
theorem ptF_PG {p : Nat} (hp : p < 3) (hV : PsV B P) : PsG B P (ptF B p P) := by
  unfold ptF
  by_cases hk : P.1 = 6 + p
  · rw [if_pos hk]
    obtain ⟨h1, h2⟩ := hV.next (by omega)
    by_cases hc : (prs B 42 0 0 (lexP B P.2.2.1)).1 = true ∧ (prs B 42 0 0 (lexP B P.2.2.1)).2.1.1 = 14
    · rw [if_pos hc]
      obtain ⟨h3, h4⟩ := prs_PG B 42 0 0 _ h1 hc.1
      obtain ⟨h5, h6⟩ := h3.next (by omega)
      intro _
      refine ⟨h5, ?_⟩
      dsimp only
      omega
    · rw [if_neg hc]; intro q; cases q
  · rw [if_neg hk]; intro q; cases q
set_option maxRecDepth 20000 in
set_option maxHeartbeats 4000000 in
theorem c_part (hN : g_N E) {p : Nat} (hp : p < 3) (hB : MyB B ti v f) (h29 : v 29 = 0) (h28 : v 28 = nI 0) (hT : MyT B P (v 25) (v 26) (v 24) t) (hV : PsV B P) : g_Ci E mX8_part (d + 60) [.ref (b 0), .int (g_bi (P.1 = 6 + p))] (mW E b v t f) (McP E b v f B 0 (ptF B p P)) := by
  have e29 : (v 29).toInt = 0 := by rw [h29]; decide
  generalize hF : ptF B p P = r
  unfold ptF at hF
  refine g_enterI hN.1 (by decide) [some (.ref (b 0)), some (.int (g_bi (P.1 = 6 + p))), none] rfl (Nat.le_of_ble_eq_true rfl) (fun A Q hQ => ?_)
  have tc0 := tc_0; have tc59 := tc_59
  have tc1 := tc_1
  by_cases hk : P.1 = 6 + p
  · rw [if_pos hk] at hF
    rw [g_bi1 hk]
    obtain ⟨hV1, hat1⟩ := hV.next (by omega)
    refine g_iload1 dX8_part_0 (g_if_ne (tgt := 8) dX8_part_1 (by decide) (fun h1 => g_aload0 dX8_part_8 (g_mget fl_X8_170 mg_29 dX8_part_9 (g_if_ne (tgt := 19) dX8_part_12 (by decide) (fun h12 => g_aload0 dX8_part_19 (g_mget fl_X8_170 mg_29 dX8_part_20 (g_if_eq (tgt := 30) dX8_part_23 (by decide) (fun h23 => g_aload0 dX8_part_30 (?c31)) (fun h23 => g_iconst ki_0 dX8_part_26 (g_goto (tgt := 34) dX8_part_27 (by decide) (g_istore2 dX8_part_34 rfl rfl (g_aload0 dX8_part_35 (g_bipush kb_59 dX8_part_36 (r_X8_isSign hN mv_X8_212 dX8_part_38 (Nat.le_of_ble_eq_true rfl) (Nat.le_of_ble_eq_true rfl) rfl (g_if_ne (tgt := 48) dX8_part_41 (by decide) (fun h41 => g_aload0 dX8_part_48 (g_mget fl_X8_170 mg_29 dX8_part_49 (g_if_ne (tgt := 59) dX8_part_52 (by decide) (fun h52 => g_iload2 dX8_part_59 (g_iret rfl dX8_part_60 (Nat.le_of_ble_eq_true rfl) (Nat.le_of_ble_eq_true rfl) ?q60)) (fun h52 => g_aload0 dX8_part_55 (?c56))))) (fun h41 => g_aload0 dX8_part_44 (?c45)))))))))))) (fun h12 => g_aload0 dX8_part_15 (?c16))))) (fun h1 => g_aload0 dX8_part_4 (?c5)))
    all_goals try omega
    case c16 =>
      refine g_V0v dX8_part_16 mv_X8_187 0 rfl rfl rfl (Nat.le_of_ble_eq_true rfl) (Nat.le_of_ble_eq_true rfl) (c_mnext (d := d + 56) hN hB hT hV (by omega)) (fun w1 hq => ?_)
      obtain ⟨v3, t3, rfl, hag3, hT3⟩ := hq
      have z3 : (v3 29).toInt = 0 := by rw [hag3.at 29 rfl]; exact e29
      have hag3' : agV mK v v3 := hag3.wk rfl
      have hc := c_levels (b := b) hN 42 0 (by omega) (d + 7) 0 _ v3 t3 f B ti (by omega) (by decide) (hB.ag hag3 rfl rfl) (by rw [hag3.at 29 rfl]; exact h29) (by rw [hag3.at 28 rfl]; exact h28) hT3 hV1
      have hPG := prs_PG B 42 0 0 _ hV1
      generalize hr1 : prs B 42 0 0 (lexP B P.2.2.1) = r1 at *
      refine g_aload0 dX8_part_19 (g_mget fl_X8_170 mg_29 dX8_part_20 (g_if_eq (tgt := 30) dX8_part_23 (by decide) (fun h23 => g_aload0 dX8_part_30 (?c31_2)) (fun h23 => g_iconst ki_0 dX8_part_26 (g_goto (tgt := 34) dX8_part_27 (by decide) (?s34_2)))))
      case s34_2 => omega
      case c31_2 =>
        refine g_V0i dX8_part_31 mv_X8_223 0 rfl rfl rfl (Nat.le_of_ble_eq_true rfl) (Nat.le_of_ble_eq_true rfl) (hc) (fun z1_ w1 hq => ?_)
        obtain ⟨v4, t4, rfl, hag4, q1, q2⟩ := hq
        cases hb : r1.1 with
        | true =>
          obtain ⟨j1, j2, j3, j4⟩ := q1 hb
          obtain ⟨g5, g6⟩ := hPG hb
          have s59 := j3.sign (j := 2) (c := 59) rfl
          have z29 : (v4 29).toInt = 0 := by rw [j1]; decide
          refine g_istore2 dX8_part_34 rfl rfl (g_aload0 dX8_part_35 (g_bipush kb_59 dX8_part_36 (r_X8_isSign hN mv_X8_212 dX8_part_38 (Nat.le_of_ble_eq_true rfl) (Nat.le_of_ble_eq_true rfl) rfl (g_if_ne (tgt := 48) dX8_part_41 (by decide) (fun h41 => g_aload0 dX8_part_48 (g_mget fl_X8_170 mg_29 dX8_part_49 (g_if_ne (tgt := 59) dX8_part_52 (by decide) (fun h52 => g_iload2 dX8_part_59 (g_iret rfl dX8_part_60 (Nat.le_of_ble_eq_true rfl) (Nat.le_of_ble_eq_true rfl) ?q60_3)) (fun h52 => g_aload0 dX8_part_55 (?c56_3))))) (fun h41 => g_aload0 dX8_part_44 (?c45_3))))))
          all_goals try simp only [g_biz, Int32.toInt_toInt64, tl_m4611686018427387904, tl_m1, tl_0, tl_1, tl_2, tl_3, tl_4, tl_5, tl_9, tl_10, tl_20, tl_40, tl_43, tl_48, tl_57, tl_60, tl_97, tl_99, tl_122, tl_255] at *
          all_goals try simp only [tc59] at *
          case c45_3 =>
            rw [if_neg (by omega)] at hF
            refine g_V0v dX8_part_45 mv_X8_184 0 rfl rfl rfl (Nat.le_of_ble_eq_true rfl) (Nat.le_of_ble_eq_true rfl) (c_X8_fail (d := d + 58) hN) (fun w1 hq => ?_)
            subst hq
            rw [if_pos z29]
            refine g_aload0 dX8_part_48 (g_mget fl_X8_170 mg_29 dX8_part_49 (g_if_ne (tgt := 59) dX8_part_52 (by decide) (fun h52 => g_iload2 dX8_part_59 (g_iret rfl dX8_part_60 (Nat.le_of_ble_eq_true rfl) (Nat.le_of_ble_eq_true rfl) ?q60_4)) (fun h52 => g_aload0 dX8_part_55 (?c56_4))))
            case c56_4 =>
              unfold failV at h52
              rw [upd_o (by decide), upd_s] at h52
              omega
            case q60_4 => exact hQ _ _ (McP.bad (by rw [← hF]) rfl (hag3'.tr hag4) (by rw [← hF]; exact j3.1))
          case q60_3 => omega
          case c56_3 =>
            rw [if_pos ⟨hb, by omega⟩] at hF
            refine g_V0v dX8_part_56 mv_X8_187 0 rfl rfl rfl (Nat.le_of_ble_eq_true rfl) (Nat.le_of_ble_eq_true rfl) (c_mnext (d := d + 56) hN (hB.ag (hag3'.tr hag4) rfl rfl) j3 g5 (by omega)) (fun w1 hq => ?_)
            obtain ⟨v5, t5, rfl, hag5, hT5⟩ := hq
            refine g_iload2 dX8_part_59 (g_iret rfl dX8_part_60 (Nat.le_of_ble_eq_true rfl) (Nat.le_of_ble_eq_true rfl) ?q60_5)
            refine hQ _ _ ⟨v5, t5, rfl, (hag3'.tr hag4).tr (hag5.wk rfl), fun _ => ⟨by rw [hag5.at 29 rfl]; exact j1, by rw [hag5.at 28 rfl]; exact j2, by rw [← hF]; exact hT5, fun s => ?_⟩, fun q => by rw [← hF] at q; cases q⟩
            rw [← hF]
            dsimp only
            rw [← nmV_ag hag3']; exact j4 s
        | false =>
          rw [if_neg (fun q => by rw [hb] at q; cases q.1)] at hF
          obtain ⟨j1, j2⟩ := q2 hb
          have z29 : (v4 29).toInt = 1 := by rw [j1]; decide
          refine g_istore2 dX8_part_34 rfl rfl (g_aload0 dX8_part_35 (g_bipush kb_59 dX8_part_36 (r_X8_isSign hN mv_X8_212 dX8_part_38 (Nat.le_of_ble_eq_true rfl) (Nat.le_of_ble_eq_true rfl) rfl (g_if_ne (tgt := 48) dX8_part_41 (by decide) (fun h41 => g_aload0 dX8_part_48 (g_mget fl_X8_170 mg_29 dX8_part_49 (g_if_ne (tgt := 59) dX8_part_52 (by decide) (fun h52 => g_iload2 dX8_part_59 (g_iret rfl dX8_part_60 (Nat.le_of_ble_eq_true rfl) (Nat.le_of_ble_eq_true rfl) ?q60_6)) (fun h52 => g_aload0 dX8_part_55 (?c56_6))))) (fun h41 => g_aload0 dX8_part_44 (?c45_6))))))
          all_goals try simp only [g_biz, Int32.toInt_toInt64, tl_m4611686018427387904, tl_m1, tl_0, tl_1, tl_2, tl_3, tl_4, tl_5, tl_9, tl_10, tl_20, tl_40, tl_43, tl_48, tl_57, tl_60, tl_97, tl_99, tl_122, tl_255] at *
          all_goals try omega
          case c45_6 =>
            refine g_V0v dX8_part_45 mv_X8_184 0 rfl rfl rfl (Nat.le_of_ble_eq_true rfl) (Nat.le_of_ble_eq_true rfl) (c_X8_fail (d := d + 58) hN) (fun w1 hq => ?_)
            subst hq
            rw [if_neg (by omega)]
            refine g_aload0 dX8_part_48 (g_mget fl_X8_170 mg_29 dX8_part_49 (g_if_ne (tgt := 59) dX8_part_52 (by decide) (fun h52 => g_iload2 dX8_part_59 (g_iret rfl dX8_part_60 (Nat.le_of_ble_eq_true rfl) (Nat.le_of_ble_eq_true rfl) ?q60_7)) (fun h52 => g_aload0 dX8_part_55 (?c56_7))))
            case c56_7 => omega
            case q60_7 => exact hQ _ _ (McP.bad2 (by rw [← hF]) rfl (hag3'.tr hag4) j1 (by rw [← hF]; exact j2))
  · rw [if_neg hk] at hF
    rw [g_bi0 hk]
    have f29 : (failV v 29).toInt = 1 := by unfold failV; rw [upd_o (by decide), upd_s]; decide
    refine g_iload1 dX8_part_0 (g_if_ne (tgt := 8) dX8_part_1 (by decide) (fun h1 => g_aload0 dX8_part_8 (g_mget fl_X8_170 mg_29 dX8_part_9 (g_if_ne (tgt := 19) dX8_part_12 (by decide) (fun h12 => g_aload0 dX8_part_19 (g_mget fl_X8_170 mg_29 dX8_part_20 (g_if_eq (tgt := 30) dX8_part_23 (by decide) (fun h23 => g_aload0 dX8_part_30 (?c31_8)) (fun h23 => g_iconst ki_0 dX8_part_26 (g_goto (tgt := 34) dX8_part_27 (by decide) (g_istore2 dX8_part_34 rfl rfl (g_aload0 dX8_part_35 (g_bipush kb_59 dX8_part_36 (r_X8_isSign hN mv_X8_212 dX8_part_38 (Nat.le_of_ble_eq_true rfl) (Nat.le_of_ble_eq_true rfl) rfl (g_if_ne (tgt := 48) dX8_part_41 (by decide) (fun h41 => g_aload0 dX8_part_48 (g_mget fl_X8_170 mg_29 dX8_part_49 (g_if_ne (tgt := 59) dX8_part_52 (by decide) (fun h52 => g_iload2 dX8_part_59 (g_iret rfl dX8_part_60 (Nat.le_of_ble_eq_true rfl) (Nat.le_of_ble_eq_true rfl) ?q60_8)) (fun h52 => g_aload0 dX8_part_55 (?c56_8))))) (fun h41 => g_aload0 dX8_part_44 (?c45_8)))))))))))) (fun h12 => g_aload0 dX8_part_15 (?c16_8))))) (fun h1 => g_aload0 dX8_part_4 (?c5_8)))
    all_goals try omega
    case c5_8 =>
      refine g_V0v dX8_part_5 mv_X8_184 0 rfl rfl rfl (Nat.le_of_ble_eq_true rfl) (Nat.le_of_ble_eq_true rfl) (c_X8_fail (d := d + 58) hN) (fun w1 hq => ?_)
      subst hq
      rw [if_pos e29]
      refine g_aload0 dX8_part_8 (g_mget fl_X8_170 mg_29 dX8_part_9 (g_if_ne (tgt := 19) dX8_part_12 (by decide) (fun h12 => g_aload0 dX8_part_19 (g_mget fl_X8_170 mg_29 dX8_part_20 (g_if_eq (tgt := 30) dX8_part_23 (by decide) (fun h23 => g_aload0 dX8_part_30 (?c31_9)) (fun h23 => g_iconst ki_0 dX8_part_26 (g_goto (tgt := 34) dX8_part_27 (by decide) (g_istore2 dX8_part_34 rfl rfl (g_aload0 dX8_part_35 (g_bipush kb_59 dX8_part_36 (r_X8_isSign hN mv_X8_212 dX8_part_38 (Nat.le_of_ble_eq_true rfl) (Nat.le_of_ble_eq_true rfl) rfl (g_if_ne (tgt := 48) dX8_part_41 (by decide) (fun h41 => g_aload0 dX8_part_48 (g_mget fl_X8_170 mg_29 dX8_part_49 (g_if_ne (tgt := 59) dX8_part_52 (by decide) (fun h52 => g_iload2 dX8_part_59 (g_iret rfl dX8_part_60 (Nat.le_of_ble_eq_true rfl) (Nat.le_of_ble_eq_true rfl) ?q60_9)) (fun h52 => g_aload0 dX8_part_55 (?c56_9))))) (fun h41 => g_aload0 dX8_part_44 (?c45_9)))))))))))) (fun h12 => g_aload0 dX8_part_15 (?c16_9))))
      all_goals try omega
      case c45_9 =>
        refine g_V0v dX8_part_45 mv_X8_184 0 rfl rfl rfl (Nat.le_of_ble_eq_true rfl) (Nat.le_of_ble_eq_true rfl) (c_X8_fail (d := d + 58) hN) (fun w1 hq => ?_)
        subst hq
        rw [if_neg (by omega)]
        refine g_aload0 dX8_part_48 (g_mget fl_X8_170 mg_29 dX8_part_49 (g_if_ne (tgt := 59) dX8_part_52 (by decide) (fun h52 => g_iload2 dX8_part_59 (g_iret rfl dX8_part_60 (Nat.le_of_ble_eq_true rfl) (Nat.le_of_ble_eq_true rfl) ?q60_10)) (fun h52 => g_aload0 dX8_part_55 (?c56_10))))
        case c56_10 => omega
        case q60_10 => exact hQ _ _ (McP.bad (by rw [← hF]) rfl agV.rf (by rw [← hF]; exact hT.1))
      all_goals (simp only [g_biz, Int32.toInt_toInt64, tl_m4611686018427387904, tl_m1, tl_0, tl_1, tl_2, tl_3, tl_4, tl_5, tl_9, tl_10, tl_20, tl_40, tl_43, tl_48, tl_57, tl_60, tl_97, tl_99, tl_122, tl_255] at *; omega)
end S80
