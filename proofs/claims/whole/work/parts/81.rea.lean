abbrev mK2 : List Nat := [22, 23, 24, 25, 26, 28, 29, 30]
theorem nmV_ag2 {S : List Nat} {v v' : Nat → Int32} (h : agV S v v') (hs : [16, 17, 18, 19, 20, 21].all (fun j => !S.contains j) = true) : nmV v' = nmV v := by
  funext i
  unfold nmV
  by_cases q : i ≤ 5
  · rw [if_pos q, if_pos q]
    have : 16 + i ∈ [16, 17, 18, 19, 20, 21] := by
      simp
      omega
    have h2 := List.all_eq_true.mp hs _ this
    exact h.at (16 + i) (by simpa using h2)
  · rw [if_neg q, if_neg q]
def rdp1 (B : List Nat) : PR := ptF B 0 (lexP B 0)
def rdp2 (B : List Nat) : PR := ptF B 1 (rdp1 B).2.1
def rdp3 (B : List Nat) : PR := ptF B 2 (rdp2 B).2.1
def reOK (B : List Nat) : Prop := (rdp1 B).1 = true ∧ (rdp2 B).1 = true ∧ (rdp3 B).1 = true ∧ (rdp3 B).2.1.1 = 22
def reAt (B : List Nat) : Nat := if (rdp1 B).1 = false then (rdp1 B).2.1.2.1 else if (rdp2 B).1 = false then (rdp2 B).2.1.2.1 else (rdp3 B).2.1.2.1
/-- the bytes of a text -/
def TB (B : List Nat) (ti : Nat) (f : Nat → Nat → Int32) : Prop := B.length ≤ 160 ∧ (∀ x ∈ B, x < 256) ∧ f 2 ti = nI B.length ∧ ∀ (i x : Nat), B[i]? = some x → f 1 (160 * ti + i) = nI x
section S81
variable {E : GE} {d : Nat} {b : Nat → Nat} {v : Nat → Int32} {t : Int64} {f : Nat → Nat → Int32} {B : List Nat} {ti : Nat}
set_option maxRecDepth 20000 in
set_option maxHeartbeats 4000000 in
theorem c_X8_read (hN : g_N E) (hti : ti < 6) (hTB : TB B ti f) (wh : Int32) : g_Ci E mX8_read (d + 62) [.ref (b 0), .int (nI ti), .int wh] (mW E b v t f) (fun z w => ∃ v' t', w = mW E b v' t' f ∧ agV mK2 v v' ∧ (reOK B → v' 29 = 0 ∧ ∀ s, (if wh.toInt = 0 then rdp1 B else if wh.toInt = 1 then rdp2 B else rdp3 B).2.2.foldl (work1 (nmV v)) s = z :: s) ∧ (¬ reOK B → v' 29 = 1 ∧ v' 30 = nI (reAt B))) := by
  obtain ⟨h160, h256, hsz, hby⟩ := hTB
  have eti := t_nI (n := ti) (by omega)
  have em : (160 : Int32) * nI ti = nI (160 * ti) := by
    apply Int32.toInt_inj.mp
    rw [t_mul (by rw [tc_160, eti]; omega) (by rw [tc_160, eti]; omega), tc_160, eti, t_nI (by omega)]
    omega
  refine g_enterI hN.1 (by decide) [some (.ref (b 0)), some (.int (nI ti)), some (.int wh), none, none, none] rfl (Nat.le_of_ble_eq_true rfl) (fun A Q hQ => ?_)
  have tc0 := tc_0; have tc1 := tc_1; have tc100 := tc_100; have tc104 := tc_104; have tc105 := tc_105; have tc109 := tc_109; have tc110 := tc_110; have tc111 := tc_111; have tc114 := tc_114; have tc115 := tc_115; have tc116 := tc_116; have tc119 := tc_119; have tc160 := tc_160
  have fin : ∀ v' t' z1 z2 z3, agV mK2 v v' → (reOK B → v' 29 = 0 ∧ (∀ s, (rdp1 B).2.2.foldl (work1 (nmV v)) s = z1 :: s) ∧ (∀ s, (rdp2 B).2.2.foldl (work1 (nmV v)) s = z2 :: s) ∧ (∀ s, (rdp3 B).2.2.foldl (work1 (nmV v)) s = z3 :: s)) → (¬ reOK B → v' 29 = 1 ∧ v' 30 = nI (reAt B)) → G E mX8_read (d + 62) 0 0 A Q 0 0 145 [some (.ref (b 0)), some (.int (nI ti)), some (.int wh), some (.int z1), some (.int z2), some (.int z3)] [] (mW E b v' t' f) := by
    intro v' t' z1 z2 z3 hag h1 h2
    refine g_iload2 dX8_read_145 (g_if_ne (tgt := 153) dX8_read_146 (by decide) (fun h146 => g_iload2 dX8_read_153 (g_iconst ki_1 dX8_read_154 (g_icmp_ne (tgt := 163) dX8_read_155 (by decide) (fun h155 => g_iload5 dX8_read_163 (g_iret rfl dX8_read_165 (Nat.le_of_ble_eq_true rfl) (Nat.le_of_ble_eq_true rfl) ?q165)) (fun h155 => g_iload4 dX8_read_158 (g_goto (tgt := 165) dX8_read_160 (by decide) (g_iret rfl dX8_read_165 (Nat.le_of_ble_eq_true rfl) (Nat.le_of_ble_eq_true rfl) ?q165')))))) (fun h146 => g_iload3 dX8_read_149 (g_goto (tgt := 165) dX8_read_150 (by decide) (g_iret rfl dX8_read_165 (Nat.le_of_ble_eq_true rfl) (Nat.le_of_ble_eq_true rfl) ?q165''))))
    case q165 =>
      refine hQ _ _ ⟨v', t', rfl, hag, fun q => ⟨(h1 q).1, ?_⟩, h2⟩
      rw [if_neg (by omega), if_neg (by omega)]; exact (h1 q).2.2.2
    case q165' =>
      refine hQ _ _ ⟨v', t', rfl, hag, fun q => ⟨(h1 q).1, ?_⟩, h2⟩
      rw [if_neg (by omega), if_pos (by omega)]; exact (h1 q).2.2.1
    case q165'' =>
      refine hQ _ _ ⟨v', t', rfl, hag, fun q => ⟨(h1 q).1, ?_⟩, h2⟩
      rw [if_pos (by omega)]; exact (h1 q).2.1
  have bad : ∀ v' t' z1 z2 l5, agV mK2 v v' → ¬ reOK B → v' 29 = 1 → v' 30 = nI (reAt B) → G E mX8_read (d + 62) 0 0 A Q 0 0 125 [some (.ref (b 0)), some (.int (nI ti)), some (.int wh), some (.int z1), some (.int z2), l5] [.int 0] (mW E b v' t' f) := by
    intro v' t' z1 z2 l5 hag hno g29 g30
    have z29 : (v' 29).toInt = 1 := by rw [g29]; decide
    refine g_istore5 dX8_read_125 rfl rfl (g_aload0 dX8_read_127 (g_mget fl_X8_170 mg_29 dX8_read_128 (g_if_ne (tgt := 145) dX8_read_131 (by decide) (fun h131 => ?s145_2) (fun h131 => ?s134_2))))
    case s134_2 => omega
    case s145_2 => exact fin v' t' z1 z2 0 hag (fun q => absurd q hno) (fun _ => ⟨g29, g30⟩)
  have L0 := lexP_PV (B := B) (p := 0) (Nat.zero_le _)
  refine g_aload0 dX8_read_0 (g_sipush ks_160 dX8_read_1 (g_iload1 dX8_read_4 (g_imul dX8_read_5 (g_mput fl_X8_143 fp_7_22 ms_22 rfl rfl rfl dX8_read_6 (g_aload0 dX8_read_9 (g_aload0 dX8_read_10 (g_mget fl_X8_17 mg_2 dX8_read_11 (g_iload1 dX8_read_14 (g_mia ma_2 dX8_read_15 ?b15_3 (g_mput fl_X8_140 fp_7_23 ms_23 rfl rfl rfl dX8_read_16 (g_aload0 dX8_read_19 (g_iconst ki_0 dX8_read_20 (g_mput fl_X8_146 fp_7_24 ms_24 rfl rfl rfl dX8_read_21 (g_aload0 dX8_read_24 (g_iconst ki_0 dX8_read_25 (g_mput fl_X8_181 fp_7_28 ms_28 rfl rfl rfl dX8_read_26 (g_aload0 dX8_read_29 (g_iconst ki_0 dX8_read_30 (g_mput fl_X8_170 fp_7_29 ms_29 rfl rfl rfl dX8_read_31 (g_aload0 dX8_read_34 (?c35_3)))))))))))))))))))))
  case b15_3 => omega
  rw [em, eti, Int.toNat_natCast, hsz]
  have hagu : agV mK2 v (upd (upd (upd (upd (upd v 22 (nI (160 * ti))) 23 (nI B.length)) 24 0) 28 0) 29 0) := ((((agV.rf.up 22 _ rfl).up 23 _ rfl).up 24 _ rfl).up 28 _ rfl).up 29 _ rfl
  have u22 : upd (upd (upd (upd (upd v 22 (nI (160 * ti))) 23 (nI B.length)) 24 0) 28 0) 29 0 22 = nI (160 * ti) := by simp only [upd, Nat.reduceEqDiff, if_false, if_true]
  have u23 : upd (upd (upd (upd (upd v 22 (nI (160 * ti))) 23 (nI B.length)) 24 0) 28 0) 29 0 23 = nI B.length := by simp only [upd, Nat.reduceEqDiff, if_false, if_true]
  have u24 : upd (upd (upd (upd (upd v 22 (nI (160 * ti))) 23 (nI B.length)) 24 0) 28 0) 29 0 24 = nI 0 := by simp only [upd, Nat.reduceEqDiff, if_false, if_true]; rfl
  have u28 : upd (upd (upd (upd (upd v 22 (nI (160 * ti))) 23 (nI B.length)) 24 0) 28 0) 29 0 28 = nI 0 := by simp only [upd, Nat.reduceEqDiff, if_false, if_true]; rfl
  have u29 : upd (upd (upd (upd (upd v 22 (nI (160 * ti))) 23 (nI B.length)) 24 0) 28 0) 29 0 29 = 0 := by simp only [upd, Nat.reduceEqDiff, if_false, if_true]
  generalize upd (upd (upd (upd (upd v 22 (nI (160 * ti))) 23 (nI B.length)) 24 0) 28 0) 29 0 = v0 at *
  have hB : MyB B ti v0 f := ⟨h160, hti, h256, u22, u23, hby⟩
  have hnm : nmV v0 = nmV v := nmV_ag2 hagu rfl
  refine g_V0v dX8_read_35 mv_X8_187 0 rfl rfl rfl (Nat.le_of_ble_eq_true rfl) (Nat.le_of_ble_eq_true rfl) (c_X8_next (d := d + 58) hN hB (Nat.zero_le _) u24) (fun w1 hq => ?_)
  obtain ⟨v1, t1, rfl, hag1, hT1⟩ := hq
  have a1 : agV mK2 v v1 := hagu.tr (hag1.wk rfl)
  have n1 : nmV v1 = nmV v := nmV_ag2 a1 rfl
  have g29 : v1 29 = 0 := by rw [hag1.at 29 rfl]; exact u29
  have g28 : v1 28 = nI 0 := by rw [hag1.at 28 rfl]; exact u28
  have hB1 : MyB B ti v1 f := hB.ag hag1 rfl rfl
  refine g_aload0 dX8_read_38 (g_aload0 dX8_read_39 (g_bipush kb_111 dX8_read_40 (g_bipush kb_100 dX8_read_42 (g_bipush kb_100 dX8_read_44 (g_bipush kb_115 dX8_read_46 (g_iconst ki_0 dX8_read_48 (g_iconst ki_0 dX8_read_49 (g_iconst ki_0 dX8_read_50 (g_iconst ki_0 dX8_read_51 (?c52_4))))))))))
  refine g_V8i dX8_read_52 mv_X8_190 0 rfl rfl rfl (Nat.le_of_ble_eq_true rfl) (Nat.le_of_ble_eq_true rfl) (c_isW6 (d := d + 58) hN hB1 hT1 g29) (fun r1 w1 hq => ?_)
  obtain ⟨rfl, rfl⟩ := hq
  refine ?c55_5
  have hp1 := c_part (b := b) (d := d + 1) (p := 0) hN (by omega) hB1 g29 g28 hT1 L0.1
  have hP1 := ptF_PG (p := 0) (by omega) L0.1
  change g_Ci E mX8_part _ _ _ (McP E b v1 f B 0 (rdp1 B)) at hp1
  change PsG B _ (rdp1 B) at hP1
  generalize hr1 : rdp1 B = r1 at *
  refine g_V1i dX8_read_55 mv_X8_245 0 rfl rfl rfl (Nat.le_of_ble_eq_true rfl) (Nat.le_of_ble_eq_true rfl) (hp1) (fun z1_ w1 hq => ?_)
  obtain ⟨v2, t2, rfl, hag2, q1, q2⟩ := hq
  have a2 : agV mK2 v v2 := a1.tr (hag2.wk rfl)
  have n2 : nmV v2 = nmV v := nmV_ag2 a2 rfl
  rw [n1] at q1
  cases hb1 : r1.1 with
  | false =>
    obtain ⟨j1, j2⟩ := q2 hb1
    have z29 : (v2 29).toInt = 1 := by rw [j1]; decide
    have hno : ¬ reOK B := fun q => by have := q.1; rw [hr1, hb1] at this; cases this
    have hat : reAt B = r1.2.1.2.1 := by unfold reAt; rw [hr1, if_pos hb1]
    refine g_istore3 dX8_read_58 rfl rfl (g_aload0 dX8_read_59 (g_mget fl_X8_170 mg_29 dX8_read_60 (g_if_eq (tgt := 70) dX8_read_63 (by decide) (fun h63 => ?s70_6) (fun h63 => g_iconst ki_0 dX8_read_66 (g_goto (tgt := 91) dX8_read_67 (by decide) (g_istore4 dX8_read_91 rfl rfl (g_aload0 dX8_read_93 (g_mget fl_X8_170 mg_29 dX8_read_94 (g_if_eq (tgt := 104) dX8_read_97 (by decide) (fun h97 => ?s104_6) (fun h97 => g_iconst ki_0 dX8_read_100 (g_goto (tgt := 125) dX8_read_101 (by decide) (?s125_6))))))))))))
    case s70_6 => omega
    case s104_6 => omega
    case s125_6 => exact bad v2 t2 _ _ _ a2 hno j1 (by rw [hat]; exact j2)
  | true =>
    obtain ⟨g29, g28, hT2, hev1⟩ := q1 hb1
    obtain ⟨hV1, -⟩ := hP1 hb1
    have z29 : (v2 29).toInt = 0 := by rw [g29]; decide
    have hB2 : MyB B ti v2 f := hB1.ag hag2 rfl rfl
    refine g_istore3 dX8_read_58 rfl rfl (g_aload0 dX8_read_59 (g_mget fl_X8_170 mg_29 dX8_read_60 (g_if_eq (tgt := 70) dX8_read_63 (by decide) (fun h63 => g_aload0 dX8_read_70 (g_aload0 dX8_read_71 (g_bipush kb_119 dX8_read_72 (g_bipush kb_111 dX8_read_74 (g_bipush kb_114 dX8_read_76 (g_bipush kb_116 dX8_read_78 (g_bipush kb_104 dX8_read_80 (g_iconst ki_0 dX8_read_82 (g_iconst ki_0 dX8_read_83 (g_iconst ki_0 dX8_read_84 (?c85_7))))))))))) (fun h63 => g_iconst ki_0 dX8_read_66 (g_goto (tgt := 91) dX8_read_67 (by decide) (?s91_7))))))
    case s91_7 => omega
    case c85_7 =>
      refine g_V8i dX8_read_85 mv_X8_190 0 rfl rfl rfl (Nat.le_of_ble_eq_true rfl) (Nat.le_of_ble_eq_true rfl) (c_isW7 (d := d + 58) hN hB2 hT2 g29) (fun r1 w1 hq => ?_)
      obtain ⟨rfl, rfl⟩ := hq
      refine ?c88_8
      have hp2 := c_part (b := b) (d := d + 1) (p := 1) hN (by omega) hB2 g29 g28 hT2 hV1
      have hP2 := ptF_PG (p := 1) (by omega) hV1
      rw [← hr1] at hp2 hP2
      change g_Ci E mX8_part _ _ _ (McP E b v2 f B 0 (rdp2 B)) at hp2
      change PsG B _ (rdp2 B) at hP2
      rw [hr1] at hp2
      generalize hr2 : rdp2 B = r2 at *
      refine g_V1i dX8_read_88 mv_X8_245 0 rfl rfl rfl (Nat.le_of_ble_eq_true rfl) (Nat.le_of_ble_eq_true rfl) (hp2) (fun z2_ w1 hq => ?_)
      obtain ⟨v3, t3, rfl, hag3, q3, q4⟩ := hq
      have a3 : agV mK2 v v3 := a2.tr (hag3.wk rfl)
      have n3 : nmV v3 = nmV v := nmV_ag2 a3 rfl
      rw [n2] at q3
      cases hb2 : r2.1 with
      | false =>
        obtain ⟨j1, j2⟩ := q4 hb2
        have y29 : (v3 29).toInt = 1 := by rw [j1]; decide
        have hno : ¬ reOK B := fun q => by have := q.2.1; rw [hr2, hb2] at this; cases this
        have hat : reAt B = r2.2.1.2.1 := by unfold reAt; rw [hr1, hr2, if_neg (by rw [hb1]; decide), if_pos hb2]
        refine g_istore4 dX8_read_91 rfl rfl (g_aload0 dX8_read_93 (g_mget fl_X8_170 mg_29 dX8_read_94 (g_if_eq (tgt := 104) dX8_read_97 (by decide) (fun h97 => ?s104_9) (fun h97 => g_iconst ki_0 dX8_read_100 (g_goto (tgt := 125) dX8_read_101 (by decide) (?s125_9))))))
        case s104_9 => omega
        case s125_9 => exact bad v3 t3 _ _ _ a3 hno j1 (by rw [hat]; exact j2)
      | true =>
        obtain ⟨g29, g28, hT3, hev2⟩ := q3 hb2
        obtain ⟨hV2, -⟩ := hP2 hb2
        have y29 : (v3 29).toInt = 0 := by rw [g29]; decide
        have hB3 : MyB B ti v3 f := hB2.ag hag3 rfl rfl
        refine g_istore4 dX8_read_91 rfl rfl (g_aload0 dX8_read_93 (g_mget fl_X8_170 mg_29 dX8_read_94 (g_if_eq (tgt := 104) dX8_read_97 (by decide) (fun h97 => g_aload0 dX8_read_104 (g_aload0 dX8_read_105 (g_bipush kb_109 dX8_read_106 (g_bipush kb_105 dX8_read_108 (g_bipush kb_110 dX8_read_110 (g_bipush kb_100 dX8_read_112 (g_bipush kb_115 dX8_read_114 (g_iconst ki_0 dX8_read_116 (g_iconst ki_0 dX8_read_117 (g_iconst ki_0 dX8_read_118 (?c119_10))))))))))) (fun h97 => g_iconst ki_0 dX8_read_100 (g_goto (tgt := 125) dX8_read_101 (by decide) (?s125_10))))))
        case s125_10 => omega
        case c119_10 =>
          refine g_V8i dX8_read_119 mv_X8_190 0 rfl rfl rfl (Nat.le_of_ble_eq_true rfl) (Nat.le_of_ble_eq_true rfl) (c_isW8 (d := d + 58) hN hB3 hT3 g29) (fun r1 w1 hq => ?_)
          obtain ⟨rfl, rfl⟩ := hq
          refine ?c122_11
          have hp3 := c_part (b := b) (d := d + 1) (p := 2) hN (by omega) hB3 g29 g28 hT3 hV2
          have hP3 := ptF_PG (p := 2) (by omega) hV2
          rw [← hr2] at hp3 hP3
          change g_Ci E mX8_part _ _ _ (McP E b v3 f B 0 (rdp3 B)) at hp3
          change PsG B _ (rdp3 B) at hP3
          rw [hr2] at hp3
          generalize hr3 : rdp3 B = r3 at *
          refine g_V1i dX8_read_122 mv_X8_245 0 rfl rfl rfl (Nat.le_of_ble_eq_true rfl) (Nat.le_of_ble_eq_true rfl) (hp3) (fun z3_ w1 hq => ?_)
          obtain ⟨v4, t4, rfl, hag4, q5, q6⟩ := hq
          have a4 : agV mK2 v v4 := a3.tr (hag4.wk rfl)
          rw [n3] at q5
          have hne1 : ¬ r1.1 = false := by rw [hb1]; decide
          have hne2 : ¬ r2.1 = false := by rw [hb2]; decide
          have hat : reAt B = r3.2.1.2.1 := by unfold reAt; rw [hr1, hr2, hr3, if_neg hne1, if_neg hne2]
          cases hb3 : r3.1 with
          | false =>
            obtain ⟨j1, j2⟩ := q6 hb3
            have x29 : (v4 29).toInt = 1 := by rw [j1]; decide
            have hno : ¬ reOK B := fun q => by have := q.2.2.1; rw [hr3, hb3] at this; cases this
            refine g_istore5 dX8_read_125 rfl rfl (g_aload0 dX8_read_127 (g_mget fl_X8_170 mg_29 dX8_read_128 (g_if_ne (tgt := 145) dX8_read_131 (by decide) (fun h131 => ?s145_12) (fun h131 => ?s134_12))))
            case s134_12 => omega
            case s145_12 => exact fin v4 t4 _ _ _ a4 (fun q => absurd q hno) (fun _ => ⟨j1, by rw [hat]; exact j2⟩)
          | true =>
            obtain ⟨g29, g28, hT4, hev3⟩ := q5 hb3
            have x29 : (v4 29).toInt = 0 := by rw [g29]; decide
            obtain ⟨k1, k2, k3, k4, k5⟩ := hT4.kinds
            refine g_istore5 dX8_read_125 rfl rfl (g_aload0 dX8_read_127 (g_mget fl_X8_170 mg_29 dX8_read_128 (g_if_ne (tgt := 145) dX8_read_131 (by decide) (fun h131 => ?s145_13) (fun h131 => g_aload0 dX8_read_134 (g_mget fl_X8_155 mg_25 dX8_read_135 (g_if_eq (tgt := 145) dX8_read_138 (by decide) (fun h138 => ?s145_13') (fun h138 => g_aload0 dX8_read_141 (?c142_13))))))))
            case s145_13 => omega
            case s145_13' =>
              have h22 : r3.2.1.1 = 22 := by omega
              refine fin v4 t4 _ _ _ a4 (fun _ => ⟨g29, hev1, hev2, hev3⟩) (fun q => absurd ?_ q)
              unfold reOK
              rw [hr1, hr2, hr3]
              exact ⟨hb1, hb2, hb3, h22⟩
            case c142_13 =>
              have hno : ¬ reOK B := fun q => by have := q.2.2.2; rw [hr3] at this; omega
              refine g_V0v dX8_read_142 mv_X8_184 0 rfl rfl rfl (Nat.le_of_ble_eq_true rfl) (Nat.le_of_ble_eq_true rfl) (c_X8_fail (d := d + 60) hN) (fun w1 hq => ?_)
              subst hq
              rw [if_pos x29]
              refine fin (failV v4) t4 _ _ _ (a4.tr ((agV.rf.up 29 _ rfl).up 30 _ rfl)) (fun q => absurd q hno) (fun _ => ⟨?_, ?_⟩)
              · unfold failV; rw [upd_o (by decide), upd_s]
              · unfold failV; rw [upd_s, hat]; exact hT4.1
end S81
