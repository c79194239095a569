/-! the model's levels -/
def mM (L : Nat) : GM := match L with
  | 0 => mX8_either
  | 1 => mX8_both
  | 2 => mX8_not
  | 4 => mX8_added
  | 5 => mX8_term
  | _ => mX8_atom
def nmV (v : Nat → Int32) : Nat → Int32 := fun i => if i ≤ 5 then v (16 + i) else 0
abbrev mK : List Nat := [24, 25, 26, 28, 29, 30]
theorem nmV_ag {v v' : Nat → Int32} (h : agV mK v v') : nmV v' = nmV v := by
  funext i
  unfold nmV
  by_cases q : i ≤ 5
  · rw [if_pos q, if_pos q]
    refine h (16 + i) (fun hh => ?_)
    simp [mK] at hh
    omega
  · rw [if_neg q, if_neg q]
def McP (E : GE) (b : Nat → Nat) (v : Nat → Int32) (f : Nat → Nat → Int32) (B : List Nat) (o : Nat) (r : PR) (z : Int32) (w : va_W) : Prop :=
  ∃ v' t', w = mW E b v' t' f ∧ agV mK v v' ∧ (r.1 = true → v' 29 = 0 ∧ v' 28 = nI o ∧ MyT B r.2.1 (v' 25) (v' 26) (v' 24) t' ∧ ∀ s, r.2.2.foldl (work1 (nmV v)) s = z :: s) ∧ (r.1 = false → v' 29 = 1 ∧ v' 30 = nI r.2.1.2.1)
def McL (E : GE) (b : Nat → Nat) (d F L : Nat) : Prop := ∀ (o : Nat) (P : PS) (v : Nat → Int32) (t : Int64) (f : Nat → Nat → Int32) (B : List Nat) (ti : Nat), o ≤ 5 → needN L o ≤ F → MyB B ti v f → v 29 = 0 → v 28 = nI o → MyT B P (v 25) (v 26) (v 24) t → PsV B P → g_Ci E (mM L) (d + F + 10) [.ref (b 0)] (mW E b v t f) (McP E b v f B o (prs B F L o P))
theorem MyT.kinds {B : List Nat} {P : PS} {k a h : Int32} {t : Int64} (hT : MyT B P k a h t) : (k.toInt = 2 ↔ P.1 = 21) ∧ (P.1 < 12 → k.toInt = 1) ∧ (k.toInt = 1 → P.1 < 12 ∨ P.1 = 23) ∧ (k.toInt = 0 ↔ P.1 = 22) ∧ P.1 < 24 := by
  obtain ⟨-, -, -, ⟨q1, q2, -⟩ | ⟨q1, q2, q3, q4, q5⟩ | ⟨q1, q2, -⟩ | ⟨c', j', q1, q2, q3, q4, q5, q6⟩ | ⟨q1, q2⟩⟩ := hT
  · have e : k.toInt = 0 := by rw [q2]; decide
    omega
  · have e : k.toInt = 1 := by rw [q1]; decide
    have := wcode_cases (slc B P.2.1 P.2.2.1)
    omega
  · have e : k.toInt = 2 := by rw [q2]; decide
    omega
  · have hj' : j' < 8 := (List.getElem?_eq_some_iff.mp q5).1
    have e : k.toInt = 3 := by rw [q1]; decide
    omega
  · have e : k.toInt = 4 := by rw [q2]; decide
    omega
theorem MyT.next {B : List Nat} {P : PS} {k a h : Int32} {t : Int64} (hT : MyT B P k a h t) (h22 : P.1 < 22) : h = nI P.2.2.1 := by
  obtain ⟨-, -, -, ⟨q1, q2, -⟩ | ⟨q1, q2, q3, q4, q5⟩ | ⟨q1, q2, q3, -⟩ | ⟨c', j', q1, q2, q3, q4, q5, q6⟩ | ⟨q1, q2⟩⟩ := hT
  · omega
  · exact q2
  · exact q3
  · exact q2
  · omega
theorem MyT.num {B : List Nat} {P : PS} {k a h : Int32} {t : Int64} (hT : MyT B P k a h t) (h22 : P.1 = 21) : t.toInt = P.2.2.2 ∧ P.2.2.2 < 10000 := by
  obtain ⟨-, -, -, ⟨q1, q2, -⟩ | ⟨q1, q2, q3, q4, q5⟩ | ⟨q1, q2, q3, q4, q5, q6⟩ | ⟨c', j', q1, q2, q3, q4, q5, q6⟩ | ⟨q1, q2⟩⟩ := hT
  · omega
  · have := wcode_cases (slc B P.2.1 P.2.2.1)
    omega
  · exact ⟨q5, q6⟩
  · have hj' : j' < 8 := (List.getElem?_eq_some_iff.mp q5).1
    omega
  · omega
section S78
variable {E : GE} {d : Nat} {b : Nat → Nat} {v : Nat → Int32} {t : Int64} {f : Nat → Nat → Int32} {B : List Nat} {ti : Nat} {P : PS} {o : Nat}
theorem c_mnext (hN : g_N E) (hB : MyB B ti v f) (hT : MyT B P (v 25) (v 26) (v 24) t) (hV : PsV B P) (h22 : P.1 < 22) : g_Cv E mX8_next (d + 3) [.ref (b 0)] (mW E b v t f) (fun w => ∃ v' t', w = mW E b v' t' f ∧ agV [24, 25, 26] v v' ∧ MyT B (lexP B P.2.2.1) (v' 25) (v' 26) (v' 24) t') := c_X8_next hN hB hV.2.1 (hT.next h22)
set_option maxRecDepth 20000 in
set_option maxHeartbeats 1000000 in
theorem c_X8_opens (hN : g_N E) (hB : MyB B ti v f) (hT : MyT B P (v 25) (v 26) (v 24) t) (hV : PsV B P) (h22 : P.1 < 22) (h29 : v 29 = 0) (h28 : v 28 = nI o) (ho : o ≤ 5) : g_Ci E mX8_opens (d + 4) [.ref (b 0)] (mW E b v t f) (fun z w => (5 ≤ o → z = 0 ∧ w = mW E b (failV v) t f) ∧ (¬ 5 ≤ o → z = 1 ∧ ∃ v' t', w = mW E b v' t' f ∧ agV [24, 25, 26, 28] v v' ∧ v' 28 = nI (o + 1) ∧ MyT B (lexP B P.2.2.1) (v' 25) (v' 26) (v' 24) t')) := by
  have e28 : (v 28).toInt = (o : Int) := by rw [h28, t_nI (by omega)]
  have e29 : (v 29).toInt = 0 := by rw [h29]; decide
  refine g_enterI hN.1 (by decide) [some (.ref (b 0))] rfl (Nat.le_of_ble_eq_true rfl) (fun A Q hQ => ?_)
  have tc0 := tc_0; have tc1 := tc_1; have tc5 := tc_5
  refine g_aload0 dX8_opens_0 (g_mget fl_X8_181 mg_28 dX8_opens_1 (g_iconst ki_5 dX8_opens_4 (g_icmp_ne (tgt := 14) dX8_opens_5 (by decide) (fun h5 => g_aload0 dX8_opens_14 (g_dup dX8_opens_15 rfl (g_mget fl_X8_181 mg_28 dX8_opens_16 (g_iconst ki_1 dX8_opens_19 (g_iadd dX8_opens_20 (g_mput fl_X8_181 fp_7_28 ms_28 rfl rfl rfl dX8_opens_21 (g_aload0 dX8_opens_24 (?c25)))))))) (fun h5 => g_aload0 dX8_opens_8 (?c9)))))
  case c9 =>
    refine g_V0v dX8_opens_9 mv_X8_184 0 rfl rfl rfl (Nat.le_of_ble_eq_true rfl) (Nat.le_of_ble_eq_true rfl) (c_X8_fail (d := d + 2) hN) (fun w1 hq => ?_)
    subst hq
    refine g_iconst ki_0 dX8_opens_12 (g_zret rfl (by first | exact g_bi01 _ | exact Or.inl rfl | exact Or.inr rfl) dX8_opens_13 (Nat.le_of_ble_eq_true rfl) (Nat.le_of_ble_eq_true rfl) ?q13_2)
    refine hQ _ _ ⟨fun _ => ⟨rfl, by rw [if_pos e29]⟩, fun q => by omega⟩
  case c25 =>
    have hag : agV [24, 25, 26, 28] v (upd v 28 (v 28 + 1)) := agV.rf.up 28 _ rfl
    refine g_V0v dX8_opens_25 mv_X8_187 0 rfl rfl rfl (Nat.le_of_ble_eq_true rfl) (Nat.le_of_ble_eq_true rfl) (c_mnext (d := d) hN (hB.ag hag rfl rfl) (P := P) (by rw [upd_o (by decide), upd_o (by decide), upd_o (by decide)]; exact hT) hV h22) (fun w1 hq => ?_)
    obtain ⟨v', t', rfl, hag2, hT2⟩ := hq
    refine g_iconst ki_1 dX8_opens_28 (g_zret rfl (by first | exact g_bi01 _ | exact Or.inl rfl | exact Or.inr rfl) dX8_opens_29 (Nat.le_of_ble_eq_true rfl) (Nat.le_of_ble_eq_true rfl) ?q29_3)
    refine hQ _ _ ⟨fun q => by omega, fun _ => ⟨rfl, v', t', rfl, hag.tr (hag2.wk rfl), ?_, hT2⟩⟩
    rw [hag2.at 28 rfl, upd_s, h28, nI_1]
set_option maxRecDepth 20000 in
set_option maxHeartbeats 1000000 in
theorem c_X8_name (hN : g_N E) (hB : MyB B ti v f) (hT : MyT B P (v 25) (v 26) (v 24) t) (h29 : v 29 = 0) : g_Ci E mX8_name (d + 4) [.ref (b 0)] (mW E b v t f) (fun z w => (P.1 ≤ 5 → z = nmV v P.1 ∧ w = mW E b v t f) ∧ (¬ P.1 ≤ 5 → w = mW E b (failV v) t f)) := by
  have e29 : (v 29).toInt = 0 := by rw [h29]; decide
  have nm : ∀ j, j ≤ 5 → P.1 = j → nmV v P.1 = v (16 + j) := fun j hj h => by unfold nmV; rw [if_pos (by omega), h]
  refine g_enterI hN.1 (by decide) [some (.ref (b 0))] rfl (Nat.le_of_ble_eq_true rfl) (fun A Q hQ => ?_)
  have tc0 := tc_0; have tc97 := tc_97; have tc99 := tc_99; have tc100 := tc_100; have tc101 := tc_101; have tc104 := tc_104; have tc109 := tc_109; have tc110 := tc_110; have tc111 := tc_111; have tc112 := tc_112; have tc114 := tc_114; have tc116 := tc_116; have tc121 := tc_121
  refine g_aload0 dX8_name_0 (g_bipush kb_111 dX8_name_1 (g_bipush kb_110 dX8_name_3 (g_bipush kb_101 dX8_name_5 (g_iconst ki_0 dX8_name_7 (g_iconst ki_0 dX8_name_8 (g_iconst ki_0 dX8_name_9 (g_iconst ki_0 dX8_name_10 (g_iconst ki_0 dX8_name_11 (?c12)))))))))
  refine g_V8i dX8_name_12 mv_X8_190 0 rfl rfl rfl (Nat.le_of_ble_eq_true rfl) (Nat.le_of_ble_eq_true rfl) (c_isW0 (d := d) hN hB hT h29) (fun r1 w1 hq => ?_)
  obtain ⟨rfl, rfl⟩ := hq
  refine g_if_eq (tgt := 23) dX8_name_15 (by decide) (fun h15 => g_aload0 dX8_name_23 (g_bipush kb_111 dX8_name_24 (g_bipush kb_116 dX8_name_26 (g_bipush kb_104 dX8_name_28 (g_bipush kb_101 dX8_name_30 (g_bipush kb_114 dX8_name_32 (g_iconst ki_0 dX8_name_34 (g_iconst ki_0 dX8_name_35 (g_iconst ki_0 dX8_name_36 (?c37_2)))))))))) (fun h15 => g_aload0 dX8_name_18 (g_mget fl_X8_194 mg_16 dX8_name_19 (g_iret rfl dX8_name_22 (Nat.le_of_ble_eq_true rfl) (Nat.le_of_ble_eq_true rfl) ?q22_2)))
  all_goals try simp only [g_biz, Int32.toInt_toInt64, tl_m4611686018427387904, tl_m1, tl_0, tl_1, tl_2, tl_3, tl_4, tl_5, tl_9, tl_10, tl_20, tl_40, tl_43, tl_48, tl_57, tl_60, tl_97, tl_99, tl_122, tl_255] at *
  case q22_2 => exact hQ _ _ ⟨fun _ => ⟨by rw [nm 0 (by omega) (by omega)], rfl⟩, fun q => by omega⟩
  refine g_V8i dX8_name_37 mv_X8_190 0 rfl rfl rfl (Nat.le_of_ble_eq_true rfl) (Nat.le_of_ble_eq_true rfl) (c_isW1 (d := d) hN hB hT h29) (fun r1 w1 hq => ?_)
  obtain ⟨rfl, rfl⟩ := hq
  refine g_if_eq (tgt := 48) dX8_name_40 (by decide) (fun h40 => g_aload0 dX8_name_48 (g_bipush kb_112 dX8_name_49 (g_bipush kb_97 dX8_name_51 (g_bipush kb_99 dX8_name_53 (g_bipush kb_101 dX8_name_55 (g_iconst ki_0 dX8_name_57 (g_iconst ki_0 dX8_name_58 (g_iconst ki_0 dX8_name_59 (g_iconst ki_0 dX8_name_60 (?c61_3)))))))))) (fun h40 => g_aload0 dX8_name_43 (g_mget fl_X8_197 mg_17 dX8_name_44 (g_iret rfl dX8_name_47 (Nat.le_of_ble_eq_true rfl) (Nat.le_of_ble_eq_true rfl) ?q47_3)))
  all_goals try simp only [g_biz, Int32.toInt_toInt64, tl_m4611686018427387904, tl_m1, tl_0, tl_1, tl_2, tl_3, tl_4, tl_5, tl_9, tl_10, tl_20, tl_40, tl_43, tl_48, tl_57, tl_60, tl_97, tl_99, tl_122, tl_255] at *
  case q47_3 => exact hQ _ _ ⟨fun _ => ⟨by rw [nm 1 (by omega) (by omega)], rfl⟩, fun q => by omega⟩
  refine g_V8i dX8_name_61 mv_X8_190 0 rfl rfl rfl (Nat.le_of_ble_eq_true rfl) (Nat.le_of_ble_eq_true rfl) (c_isW2 (d := d) hN hB hT h29) (fun r1 w1 hq => ?_)
  obtain ⟨rfl, rfl⟩ := hq
  refine g_if_eq (tgt := 72) dX8_name_64 (by decide) (fun h64 => g_aload0 dX8_name_72 (g_bipush kb_110 dX8_name_73 (g_bipush kb_101 dX8_name_75 (g_bipush kb_97 dX8_name_77 (g_bipush kb_114 dX8_name_79 (g_iconst ki_0 dX8_name_81 (g_iconst ki_0 dX8_name_82 (g_iconst ki_0 dX8_name_83 (g_iconst ki_0 dX8_name_84 (?c85_4)))))))))) (fun h64 => g_aload0 dX8_name_67 (g_mget fl_X8_200 mg_18 dX8_name_68 (g_iret rfl dX8_name_71 (Nat.le_of_ble_eq_true rfl) (Nat.le_of_ble_eq_true rfl) ?q71_4)))
  all_goals try simp only [g_biz, Int32.toInt_toInt64, tl_m4611686018427387904, tl_m1, tl_0, tl_1, tl_2, tl_3, tl_4, tl_5, tl_9, tl_10, tl_20, tl_40, tl_43, tl_48, tl_57, tl_60, tl_97, tl_99, tl_122, tl_255] at *
  case q71_4 => exact hQ _ _ ⟨fun _ => ⟨by rw [nm 2 (by omega) (by omega)], rfl⟩, fun q => by omega⟩
  refine g_V8i dX8_name_85 mv_X8_190 0 rfl rfl rfl (Nat.le_of_ble_eq_true rfl) (Nat.le_of_ble_eq_true rfl) (c_isW3 (d := d) hN hB hT h29) (fun r1 w1 hq => ?_)
  obtain ⟨rfl, rfl⟩ := hq
  refine g_if_eq (tgt := 96) dX8_name_88 (by decide) (fun h88 => g_aload0 dX8_name_96 (g_bipush kb_109 dX8_name_97 (g_bipush kb_97 dX8_name_99 (g_bipush kb_110 dX8_name_101 (g_bipush kb_121 dX8_name_103 (g_iconst ki_0 dX8_name_105 (g_iconst ki_0 dX8_name_106 (g_iconst ki_0 dX8_name_107 (g_iconst ki_0 dX8_name_108 (?c109_5)))))))))) (fun h88 => g_aload0 dX8_name_91 (g_mget fl_X8_203 mg_19 dX8_name_92 (g_iret rfl dX8_name_95 (Nat.le_of_ble_eq_true rfl) (Nat.le_of_ble_eq_true rfl) ?q95_5)))
  all_goals try simp only [g_biz, Int32.toInt_toInt64, tl_m4611686018427387904, tl_m1, tl_0, tl_1, tl_2, tl_3, tl_4, tl_5, tl_9, tl_10, tl_20, tl_40, tl_43, tl_48, tl_57, tl_60, tl_97, tl_99, tl_122, tl_255] at *
  case q95_5 => exact hQ _ _ ⟨fun _ => ⟨by rw [nm 3 (by omega) (by omega)], rfl⟩, fun q => by omega⟩
  refine g_V8i dX8_name_109 mv_X8_190 0 rfl rfl rfl (Nat.le_of_ble_eq_true rfl) (Nat.le_of_ble_eq_true rfl) (c_isW4 (d := d) hN hB hT h29) (fun r1 w1 hq => ?_)
  obtain ⟨rfl, rfl⟩ := hq
  refine g_if_eq (tgt := 120) dX8_name_112 (by decide) (fun h112 => g_aload0 dX8_name_120 (g_bipush kb_104 dX8_name_121 (g_bipush kb_97 dX8_name_123 (g_bipush kb_110 dX8_name_125 (g_bipush kb_100 dX8_name_127 (g_iconst ki_0 dX8_name_129 (g_iconst ki_0 dX8_name_130 (g_iconst ki_0 dX8_name_131 (g_iconst ki_0 dX8_name_132 (?c133_6)))))))))) (fun h112 => g_aload0 dX8_name_115 (g_mget fl_X8_206 mg_20 dX8_name_116 (g_iret rfl dX8_name_119 (Nat.le_of_ble_eq_true rfl) (Nat.le_of_ble_eq_true rfl) ?q119_6)))
  all_goals try simp only [g_biz, Int32.toInt_toInt64, tl_m4611686018427387904, tl_m1, tl_0, tl_1, tl_2, tl_3, tl_4, tl_5, tl_9, tl_10, tl_20, tl_40, tl_43, tl_48, tl_57, tl_60, tl_97, tl_99, tl_122, tl_255] at *
  case q119_6 => exact hQ _ _ ⟨fun _ => ⟨by rw [nm 4 (by omega) (by omega)], rfl⟩, fun q => by omega⟩
  refine g_V8i dX8_name_133 mv_X8_190 0 rfl rfl rfl (Nat.le_of_ble_eq_true rfl) (Nat.le_of_ble_eq_true rfl) (c_isW5 (d := d) hN hB hT h29) (fun r1 w1 hq => ?_)
  obtain ⟨rfl, rfl⟩ := hq
  refine g_if_eq (tgt := 144) dX8_name_136 (by decide) (fun h136 => g_aload0 dX8_name_144 (?c145_7)) (fun h136 => g_aload0 dX8_name_139 (g_mget fl_X8_209 mg_21 dX8_name_140 (g_iret rfl dX8_name_143 (Nat.le_of_ble_eq_true rfl) (Nat.le_of_ble_eq_true rfl) ?q143_7)))
  all_goals try simp only [g_biz, Int32.toInt_toInt64, tl_m4611686018427387904, tl_m1, tl_0, tl_1, tl_2, tl_3, tl_4, tl_5, tl_9, tl_10, tl_20, tl_40, tl_43, tl_48, tl_57, tl_60, tl_97, tl_99, tl_122, tl_255] at *
  case q143_7 => exact hQ _ _ ⟨fun _ => ⟨by rw [nm 5 (by omega) (by omega)], rfl⟩, fun q => by omega⟩
  refine g_V0v dX8_name_145 mv_X8_184 0 rfl rfl rfl (Nat.le_of_ble_eq_true rfl) (Nat.le_of_ble_eq_true rfl) (c_X8_fail (d := d + 2) hN) (fun w1 hq => ?_)
  subst hq
  refine g_iconst ki_0 dX8_name_148 (g_iret rfl dX8_name_149 (Nat.le_of_ble_eq_true rfl) (Nat.le_of_ble_eq_true rfl) ?q149_8)
  exact hQ _ _ ⟨fun q => by omega, fun _ => by rw [if_pos e29]⟩
theorem McP.bad {z : Int32} {w : va_W} {r : PR} {v' : Nat → Int32} {t' : Int64} (hr : r.1 = false) (hw : w = mW E b (failV v') t' f) (hag : agV mK v v') (h26 : v' 26 = nI r.2.1.2.1) : McP E b v f B o r z w := by
  refine ⟨failV v', t', hw, (hag.up 29 _ rfl).up 30 _ rfl, fun q => absurd q (by rw [hr]; decide), fun _ => ⟨?_, ?_⟩⟩
  · unfold failV; rw [upd_o (by decide), upd_s]
  · unfold failV; rw [upd_s]; exact h26
theorem McP.bad2 {z : Int32} {w : va_W} {r : PR} {v' : Nat → Int32} {t' : Int64} (hr : r.1 = false) (hw : w = mW E b v' t' f) (hag : agV mK v v') (h29 : v' 29 = 1) (h30 : v' 30 = nI r.2.1.2.1) : McP E b v f B o r z w := ⟨v', t', hw, hag, fun q => absurd q (by rw [hr]; decide), fun _ => ⟨h29, h30⟩⟩
theorem evM {nm : Nat → Int32} {n : Nat} (hn : n < 10000) (s : List Int32) : work1 nm s (32 + nI n) = nI n :: s := by
  have e : (32 + nI n).toInt = 32 + (n : Int) := by rw [t_add (by rw [tc_32, t_nI (by omega)]; omega) (by rw [tc_32, t_nI (by omega)]; omega), tc_32, t_nI (by omega)]
  unfold work1
  rw [if_pos (by omega)]
  have : 32 + nI n - 32 = nI n := by
    apply Int32.toInt_inj.mp
    rw [t_sub (by rw [e, tc_32]; omega) (by rw [e, tc_32]; omega), e, tc_32, t_nI (by omega)]
    omega
  rw [this]
theorem evNm {nm : Nat → Int32} {j : Nat} (hj : j ≤ 5) (s : List Int32) : work1 nm s (nI j) = nm j :: s := by
  have e := t_nI (n := j) (by omega)
  unfold work1
  rw [if_neg (by omega), if_pos (by omega), e, Int.toNat_natCast]
theorem evNot {nm : Nat → Int32} (x : Int32) (s : List Int32) : work1 nm (x :: s) 11 = g_bi (x.toInt = 0) :: s := rfl
theorem evNeg {nm : Nat → Int32} (x : Int32) (s : List Int32) : work1 nm (x :: s) 20 = (-x) :: s := rfl
theorem evOp {nm : Nat → Int32} (x y : Int32) (s : List Int32) {j : Nat} (hj : j = 9 ∨ j = 10 ∨ (15 ≤ j ∧ j ≤ 19)) : work1 nm (y :: x :: s) (nI j) = joinF (nI j) x y :: s := by
  have e := t_nI (n := j) (by omega)
  unfold work1
  rw [if_neg (by omega), if_neg (by omega), if_neg (by omega), if_neg (by omega)]
  rfl
set_option maxRecDepth 20000 in
set_option maxHeartbeats 4000000 in
theorem c_atom (hN : g_N E) {F : Nat} (ih0 : McL E b d F 0) (ih6 : McL E b d F 6) : McL E b d (F + 1) 6 := by
  intro o P v t f B ti ho hne hB h29 h28 hT hV
  have e29 : (v 29).toInt = 0 := by rw [h29]; decide
  have s45 := hT.sign (j := 4) (c := 45) rfl
  have s40 := hT.sign (j := 0) (c := 40) rfl
  obtain ⟨k1, k2, k3, k4, k5⟩ := hT.kinds
  have h26 := hT.1
  show g_Ci E mX8_atom _ _ _ _
  generalize hF : prs B (F + 1) 6 o P = r
  rw [prs, if_neg (by decide), if_neg (by decide), if_neg (by decide), if_neg (by decide), if_neg (by decide), if_neg (by decide)] at hF
  refine g_enterI hN.1 (by decide) [some (.ref (b 0)), none] rfl (Nat.le_of_ble_eq_true rfl) (fun A Q hQ => ?_)
  have tc0 := tc_0; have tc1 := tc_1; have tc2 := tc_2; have tc40 := tc_40; have tc41 := tc_41; have tc45 := tc_45
  have wr : ¬ P.1 = 21 → ¬ P.1 ≤ 5 → ¬ P.1 = 16 → ¬ P.1 = 12 → G E mX8_atom (d + (F + 1) + 10) 0 0 A Q 0 0 158 [some (.ref (b 0)), some (.int 0)] [.ref (b 0)] (mW E b v t f) := by
    intro w1 w2 w3 w4
    refine g_V0v dX8_atom_158 mv_X8_184 0 rfl rfl rfl (Nat.le_of_ble_eq_true rfl) (Nat.le_of_ble_eq_true rfl) (c_X8_fail (d := d + F + 9) hN) (fun w1 hq => ?_)
    subst hq
    rw [if_pos e29]
    have hrf : r.1 = false ∧ r.2.1 = P := by
      rw [if_neg w1, if_neg w2] at hF
      by_cases h6 : 5 ≤ o
      · rw [if_pos h6] at hF; rw [← hF]; exact ⟨rfl, rfl⟩
      · rw [if_neg h6, if_neg w3, if_neg w4] at hF; rw [← hF]; exact ⟨rfl, rfl⟩
    refine g_iload1 dX8_atom_161 (g_iret rfl dX8_atom_162 (Nat.le_of_ble_eq_true rfl) (Nat.le_of_ble_eq_true rfl) ?q162)
    exact hQ _ _ (McP.bad hrf.1 rfl agV.rf (by rw [hrf.2]; exact h26))
  refine g_iconst ki_0 dX8_atom_0 (g_istore1 dX8_atom_1 rfl rfl (g_aload0 dX8_atom_2 (g_bipush kb_45 dX8_atom_3 (r_X8_isSign hN mv_X8_212 dX8_atom_5 (Nat.le_of_ble_eq_true rfl) (Nat.le_of_ble_eq_true rfl) rfl (g_if_eq (tgt := 37) dX8_atom_8 (by decide) (fun h8 => g_aload0 dX8_atom_37 (g_bipush kb_40 dX8_atom_38 (r_X8_isSign hN mv_X8_212 dX8_atom_40 (Nat.le_of_ble_eq_true rfl) (Nat.le_of_ble_eq_true rfl) rfl (g_if_eq (tgt := 95) dX8_atom_43 (by decide) (fun h43 => g_aload0 dX8_atom_95 (g_mget fl_X8_170 mg_29 dX8_atom_96 (g_if_ne (tgt := 123) dX8_atom_99 (by decide) (fun h99 => g_aload0 dX8_atom_123 (g_mget fl_X8_170 mg_29 dX8_atom_124 (g_if_ne (tgt := 157) dX8_atom_127 (by decide) (fun h127 => g_aload0 dX8_atom_157 (?c158_2)) (fun h127 => g_aload0 dX8_atom_130 (g_mget fl_X8_155 mg_25 dX8_atom_131 (g_iconst ki_1 dX8_atom_134 (g_icmp_ne (tgt := 157) dX8_atom_135 (by decide) (fun h135 => g_aload0 dX8_atom_157 (?c158_2')) (fun h135 => g_aload0 dX8_atom_138 (?c139_2))))))))) (fun h99 => g_aload0 dX8_atom_102 (g_mget fl_X8_155 mg_25 dX8_atom_103 (g_iconst ki_2 dX8_atom_106 (g_icmp_ne (tgt := 123) dX8_atom_107 (by decide) (fun h107 => g_aload0 dX8_atom_123 (g_mget fl_X8_170 mg_29 dX8_atom_124 (g_if_ne (tgt := 157) dX8_atom_127 (by decide) (fun h127 => g_aload0 dX8_atom_157 (?c158_2'')) (fun h127 => g_aload0 dX8_atom_130 (g_mget fl_X8_155 mg_25 dX8_atom_131 (g_iconst ki_1 dX8_atom_134 (g_icmp_ne (tgt := 157) dX8_atom_135 (by decide) (fun h135 => g_aload0 dX8_atom_157 (?c158_2''')) (fun h135 => g_aload0 dX8_atom_138 (?c139_2'))))))))) (fun h107 => g_aload0 dX8_atom_110 (g_mget fl_X8_166 mg_27 dX8_atom_111 (g_l2i dX8_atom_114 (g_istore1 dX8_atom_115 rfl rfl (g_aload0 dX8_atom_116 (?c117_2))))))))))))) (fun h43 => g_aload0 dX8_atom_46 (?c47_2)))))) (fun h8 => g_aload0 dX8_atom_11 (?c12_2)))))))
  all_goals try simp only [g_biz, Int32.toInt_toInt64, tl_m4611686018427387904, tl_m1, tl_0, tl_1, tl_2, tl_3, tl_4, tl_5, tl_9, tl_10, tl_20, tl_40, tl_43, tl_48, tl_57, tl_60, tl_97, tl_99, tl_122, tl_255] at *
  all_goals try simp only [tc45, tc40] at *
  case c12_2 =>
    rw [if_neg (by omega), if_neg (by omega)] at hF
    refine g_V0i dX8_atom_12 mv_X8_215 0 rfl rfl rfl (Nat.le_of_ble_eq_true rfl) (Nat.le_of_ble_eq_true rfl) (c_X8_opens (d := d + F + 6) hN hB hT hV (by omega) h29 h28 ho) (fun r1 w1 hq => ?_)
    by_cases h5 : 5 ≤ o
    · obtain ⟨rfl, rfl⟩ := hq.1 h5
      rw [if_pos h5] at hF
      refine g_if_eq (tgt := 161) dX8_atom_15 (by decide) (fun h15 => g_iload1 dX8_atom_161 (g_iret rfl dX8_atom_162 (Nat.le_of_ble_eq_true rfl) (Nat.le_of_ble_eq_true rfl) ?q162_3)) (fun h15 => g_aload0 dX8_atom_18 (?c19_3))
      case c19_3 => omega
      case q162_3 => exact hQ _ _ (McP.bad (by rw [← hF]) rfl agV.rf (by rw [← hF]; exact h26))
    · obtain ⟨rfl, v1, t1, rfl, hag, g28, hT1⟩ := hq.2 h5
      rw [if_neg h5, if_pos (by omega)] at hF
      obtain ⟨hV1, hat⟩ := hV.next (by omega)
      refine g_if_eq (tgt := 161) dX8_atom_15 (by decide) (fun h15 => g_iload1 dX8_atom_161 (g_iret rfl dX8_atom_162 (Nat.le_of_ble_eq_true rfl) (Nat.le_of_ble_eq_true rfl) ?q162_4)) (fun h15 => g_aload0 dX8_atom_18 (?c19_4))
      case q162_4 => omega
      case c19_4 =>
        have hc := ih6 (o + 1) _ v1 t1 f B ti (by omega) (by unfold needN at *; omega) (hB.ag hag rfl rfl) (by rw [hag.at 29 rfl]; exact h29) g28 hT1 hV1
        generalize hr1 : prs B F 6 (o + 1) (lexP B P.2.2.1) = r1 at *
        refine g_V0i dX8_atom_19 mv_X8_219 0 rfl rfl rfl (Nat.le_of_ble_eq_true rfl) (Nat.le_of_ble_eq_true rfl) (hc) (fun z1_ w1 hq => ?_)
        obtain ⟨v2, t2, rfl, hag2, q1, q2⟩ := hq
        refine g_ineg dX8_atom_22 (g_istore1 dX8_atom_23 rfl rfl (g_aload0 dX8_atom_24 (g_dup dX8_atom_25 rfl (g_mget fl_X8_181 mg_28 dX8_atom_26 (g_iconst ki_1 dX8_atom_29 (g_isub dX8_atom_30 (g_mput fl_X8_181 fp_7_28 ms_28 rfl rfl rfl dX8_atom_31 (g_goto (tgt := 161) dX8_atom_34 (by decide) (g_iload1 dX8_atom_161 (g_iret rfl dX8_atom_162 (Nat.le_of_ble_eq_true rfl) (Nat.le_of_ble_eq_true rfl) ?q162_5))))))))))
        cases hb : r1.1 with
        | true =>
          obtain ⟨j1, j2, j3, j4⟩ := q1 hb
          refine hQ _ _ ⟨_, t2, rfl, ((hag.wk rfl).tr hag2).up 28 _ rfl, fun _ => ⟨?_, ?_, ?_, fun s => ?_⟩, fun q => ?_⟩
          · rw [upd_o (by decide)]; exact j1
          · rw [upd_s, j2, nI_pred]
          · rw [← hF, upd_o (by decide), upd_o (by decide), upd_o (by decide)]; exact j3
          · rw [← hF]
            dsimp only
            rw [← nmV_ag (hag.wk (S2 := mK) rfl), List.foldl_append, j4 s]
            rfl
          · rw [← hF] at q; dsimp only at q; rw [hb] at q; cases q
        | false =>
          obtain ⟨j1, j2⟩ := q2 hb
          refine hQ _ _ (McP.bad2 (by rw [← hF]; exact hb) rfl (((hag.wk rfl).tr hag2).up 28 _ rfl) ?_ ?_)
          · rw [upd_o (by decide)]; exact j1
          · rw [← hF, upd_o (by decide)]; exact j2
  case c47_2 =>
    rw [if_neg (by omega), if_neg (by omega)] at hF
    refine g_V0i dX8_atom_47 mv_X8_215 0 rfl rfl rfl (Nat.le_of_ble_eq_true rfl) (Nat.le_of_ble_eq_true rfl) (c_X8_opens (d := d + F + 6) hN hB hT hV (by omega) h29 h28 ho) (fun r1 w1 hq => ?_)
    by_cases h5 : 5 ≤ o
    · obtain ⟨rfl, rfl⟩ := hq.1 h5
      rw [if_pos h5] at hF
      refine g_if_eq (tgt := 161) dX8_atom_50 (by decide) (fun h50 => g_iload1 dX8_atom_161 (g_iret rfl dX8_atom_162 (Nat.le_of_ble_eq_true rfl) (Nat.le_of_ble_eq_true rfl) ?q162_6)) (fun h50 => g_aload0 dX8_atom_53 (?c54_6))
      case c54_6 => omega
      case q162_6 => exact hQ _ _ (McP.bad (by rw [← hF]) rfl agV.rf (by rw [← hF]; exact h26))
    · obtain ⟨rfl, v1, t1, rfl, hag, g28, hT1⟩ := hq.2 h5
      rw [if_neg h5, if_neg (by omega), if_pos (by omega)] at hF
      obtain ⟨hV1, hat⟩ := hV.next (by omega)
      refine g_if_eq (tgt := 161) dX8_atom_50 (by decide) (fun h50 => g_iload1 dX8_atom_161 (g_iret rfl dX8_atom_162 (Nat.le_of_ble_eq_true rfl) (Nat.le_of_ble_eq_true rfl) ?q162_7)) (fun h50 => g_aload0 dX8_atom_53 (?c54_7))
      case q162_7 => omega
      case c54_7 =>
        have hc := ih0 (o + 1) _ v1 t1 f B ti (by omega) (by unfold needN at *; omega) (hB.ag hag rfl rfl) (by rw [hag.at 29 rfl]; exact h29) g28 hT1 hV1
        have hPG := prs_PG B F 0 (o + 1) _ hV1
        generalize hr1 : prs B F 0 (o + 1) (lexP B P.2.2.1) = r1 at *
        refine g_V0i dX8_atom_54 mv_X8_223 0 rfl rfl rfl (Nat.le_of_ble_eq_true rfl) (Nat.le_of_ble_eq_true rfl) (hc) (fun z1_ w1 hq => ?_)
        obtain ⟨v2, t2, rfl, hag2, q1, q2⟩ := hq
        have hagv2 : agV mK v v2 := (hag.wk rfl).tr hag2
        cases hb : r1.1 with
        | true =>
          obtain ⟨j1, j2, j3, j4⟩ := q1 hb
          have s41 := j3.sign (j := 1) (c := 41) rfl
          have z29 : (v2 29).toInt = 0 := by rw [j1]; decide
          refine g_istore1 dX8_atom_57 rfl rfl (g_aload0 dX8_atom_58 (g_bipush kb_41 dX8_atom_59 (r_X8_isSign hN mv_X8_212 dX8_atom_61 (Nat.le_of_ble_eq_true rfl) (Nat.le_of_ble_eq_true rfl) rfl (g_if_ne (tgt := 71) dX8_atom_64 (by decide) (fun h64 => g_aload0 dX8_atom_71 (g_dup dX8_atom_72 rfl (g_mget fl_X8_181 mg_28 dX8_atom_73 (g_iconst ki_1 dX8_atom_76 (g_isub dX8_atom_77 (g_mput fl_X8_181 fp_7_28 ms_28 rfl rfl rfl dX8_atom_78 (g_aload0 dX8_atom_81 (g_mget fl_X8_170 mg_29 dX8_atom_82 (g_if_ne (tgt := 161) dX8_atom_85 (by decide) (fun h85 => g_iload1 dX8_atom_161 (g_iret rfl dX8_atom_162 (Nat.le_of_ble_eq_true rfl) (Nat.le_of_ble_eq_true rfl) ?q162_8)) (fun h85 => g_aload0 dX8_atom_88 (?c89_8))))))))))) (fun h64 => g_aload0 dX8_atom_67 (?c68_8))))))
          all_goals try simp only [g_biz, Int32.toInt_toInt64, tl_m4611686018427387904, tl_m1, tl_0, tl_1, tl_2, tl_3, tl_4, tl_5, tl_9, tl_10, tl_20, tl_40, tl_43, tl_48, tl_57, tl_60, tl_97, tl_99, tl_122, tl_255] at *
          all_goals try simp only [tc41] at *
          case c68_8 =>
            rw [if_neg (by omega)] at hF
            refine g_V0v dX8_atom_68 mv_X8_184 0 rfl rfl rfl (Nat.le_of_ble_eq_true rfl) (Nat.le_of_ble_eq_true rfl) (c_X8_fail (d := d + F + 9) hN) (fun w1 hq => ?_)
            subst hq
            rw [if_pos z29]
            refine g_aload0 dX8_atom_71 (g_dup dX8_atom_72 rfl (g_mget fl_X8_181 mg_28 dX8_atom_73 (g_iconst ki_1 dX8_atom_76 (g_isub dX8_atom_77 (g_mput fl_X8_181 fp_7_28 ms_28 rfl rfl rfl dX8_atom_78 (g_aload0 dX8_atom_81 (g_mget fl_X8_170 mg_29 dX8_atom_82 (g_if_ne (tgt := 161) dX8_atom_85 (by decide) (fun h85 => g_iload1 dX8_atom_161 (g_iret rfl dX8_atom_162 (Nat.le_of_ble_eq_true rfl) (Nat.le_of_ble_eq_true rfl) ?q162_9)) (fun h85 => g_aload0 dX8_atom_88 (?c89_9))))))))))
            case c89_9 =>
              unfold failV at h85
              rw [upd_o (by decide), upd_o (by decide), upd_s] at h85
              omega
            case q162_9 =>
              refine hQ _ _ ⟨_, t2, rfl, ((hagv2.up 29 _ rfl).up 30 _ rfl).up 28 _ rfl, fun q => ?_, fun _ => ⟨?_, ?_⟩⟩
              · rw [← hF] at q; cases q
              · unfold failV; rw [upd_o (by decide), upd_o (by decide), upd_s]
              · unfold failV; rw [upd_o (by decide), upd_s, ← hF]; exact j3.1
          case q162_8 => rw [upd_o (by decide)] at h85; omega
          case c89_8 =>
            rw [if_pos ⟨hb, by omega⟩] at hF
            obtain ⟨g5, g6⟩ := hPG hb
            have hagu : agV mK v (upd v2 28 (v2 28 - 1)) := hagv2.up 28 _ rfl
            refine g_V0v dX8_atom_89 mv_X8_187 0 rfl rfl rfl (Nat.le_of_ble_eq_true rfl) (Nat.le_of_ble_eq_true rfl) (c_mnext (d := d + F + 7) hN (hB.ag hagu rfl rfl) (P := r1.2.1) (by rw [upd_o (by decide), upd_o (by decide), upd_o (by decide)]; exact j3) g5 (by omega)) (fun w1 hq => ?_)
            obtain ⟨v3, t3, rfl, hag3, hT3⟩ := hq
            refine g_goto (tgt := 161) dX8_atom_92 (by decide) (g_iload1 dX8_atom_161 (g_iret rfl dX8_atom_162 (Nat.le_of_ble_eq_true rfl) (Nat.le_of_ble_eq_true rfl) ?q162_10))
            refine hQ _ _ ⟨v3, t3, rfl, hagu.tr (hag3.wk rfl), fun _ => ⟨?_, ?_, by rw [← hF]; exact hT3, fun s => ?_⟩, fun q => ?_⟩
            · rw [hag3.at 29 rfl, upd_o (by decide)]; exact j1
            · rw [hag3.at 28 rfl, upd_s, j2, nI_pred]
            · rw [← hF]
              dsimp only
              rw [← nmV_ag (hag.wk (S2 := mK) rfl)]; exact j4 s
            · rw [← hF] at q; cases q
        | false =>
          rw [if_neg (fun q => by rw [hb] at q; cases q.1)] at hF
          obtain ⟨j1, j2⟩ := q2 hb
          have z29 : (v2 29).toInt = 1 := by rw [j1]; decide
          refine g_istore1 dX8_atom_57 rfl rfl (g_aload0 dX8_atom_58 (g_bipush kb_41 dX8_atom_59 (r_X8_isSign hN mv_X8_212 dX8_atom_61 (Nat.le_of_ble_eq_true rfl) (Nat.le_of_ble_eq_true rfl) rfl (g_if_ne (tgt := 71) dX8_atom_64 (by decide) (fun h64 => g_aload0 dX8_atom_71 (g_dup dX8_atom_72 rfl (g_mget fl_X8_181 mg_28 dX8_atom_73 (g_iconst ki_1 dX8_atom_76 (g_isub dX8_atom_77 (g_mput fl_X8_181 fp_7_28 ms_28 rfl rfl rfl dX8_atom_78 (g_aload0 dX8_atom_81 (g_mget fl_X8_170 mg_29 dX8_atom_82 (g_if_ne (tgt := 161) dX8_atom_85 (by decide) (fun h85 => g_iload1 dX8_atom_161 (g_iret rfl dX8_atom_162 (Nat.le_of_ble_eq_true rfl) (Nat.le_of_ble_eq_true rfl) ?q162_11)) (fun h85 => g_aload0 dX8_atom_88 (?c89_11))))))))))) (fun h64 => g_aload0 dX8_atom_67 (?c68_11))))))
          all_goals try simp only [g_biz, Int32.toInt_toInt64, tl_m4611686018427387904, tl_m1, tl_0, tl_1, tl_2, tl_3, tl_4, tl_5, tl_9, tl_10, tl_20, tl_40, tl_43, tl_48, tl_57, tl_60, tl_97, tl_99, tl_122, tl_255] at *
          all_goals try omega
          case c68_11 =>
            refine g_V0v dX8_atom_68 mv_X8_184 0 rfl rfl rfl (Nat.le_of_ble_eq_true rfl) (Nat.le_of_ble_eq_true rfl) (c_X8_fail (d := d + F + 9) hN) (fun w1 hq => ?_)
            subst hq
            rw [if_neg (by omega)]
            refine g_aload0 dX8_atom_71 (g_dup dX8_atom_72 rfl (g_mget fl_X8_181 mg_28 dX8_atom_73 (g_iconst ki_1 dX8_atom_76 (g_isub dX8_atom_77 (g_mput fl_X8_181 fp_7_28 ms_28 rfl rfl rfl dX8_atom_78 (g_aload0 dX8_atom_81 (g_mget fl_X8_170 mg_29 dX8_atom_82 (g_if_ne (tgt := 161) dX8_atom_85 (by decide) (fun h85 => g_iload1 dX8_atom_161 (g_iret rfl dX8_atom_162 (Nat.le_of_ble_eq_true rfl) (Nat.le_of_ble_eq_true rfl) ?q162_12)) (fun h85 => g_aload0 dX8_atom_88 (?c89_12))))))))))
            case c89_12 => rw [upd_o (by decide)] at h85; omega
            case q162_12 =>
              refine hQ _ _ (McP.bad2 (by rw [← hF]) rfl (hagv2.up 28 _ rfl) ?_ ?_)
              · rw [upd_o (by decide)]; exact j1
              · rw [← hF, upd_o (by decide)]; exact j2
  case c117_2 =>
    rw [if_pos (by omega)] at hF
    obtain ⟨n1, n2⟩ := hT.num (by omega)
    refine g_V0v dX8_atom_117 mv_X8_187 0 rfl rfl rfl (Nat.le_of_ble_eq_true rfl) (Nat.le_of_ble_eq_true rfl) (c_mnext (d := d + F + 7) hN hB hT hV (by omega)) (fun w1 hq => ?_)
    obtain ⟨v3, t3, rfl, hag3, hT3⟩ := hq
    refine g_goto (tgt := 161) dX8_atom_120 (by decide) (g_iload1 dX8_atom_161 (g_iret rfl dX8_atom_162 (Nat.le_of_ble_eq_true rfl) (Nat.le_of_ble_eq_true rfl) ?q162_13))
    have hz : t.toInt32 = nI P.2.2.2 := by
      apply Int32.toInt_inj.mp
      rw [Int64.toInt_toInt32, n1, t_nI (by omega)]
      exact Int.bmod_eq_of_le (by omega) (by omega)
    refine hQ _ _ ⟨v3, t3, rfl, hag3.wk rfl, fun _ => ⟨by rw [hag3.at 29 rfl]; exact h29, by rw [hag3.at 28 rfl]; exact h28, by rw [← hF]; exact hT3, fun s => ?_⟩, fun q => ?_⟩
    · rw [← hF, hz]
      exact evM n2 s
    · rw [← hF] at q; cases q
  case c139_2' =>
    refine g_V0i dX8_atom_139 mv_X8_226 0 rfl rfl rfl (Nat.le_of_ble_eq_true rfl) (Nat.le_of_ble_eq_true rfl) (c_X8_name (d := d + F + 6) hN hB hT h29) (fun r1 w1 hq => ?_)
    by_cases h5 : P.1 ≤ 5
    · rw [if_neg (by omega), if_pos h5] at hF
      obtain ⟨rfl, rfl⟩ := hq.1 h5
      refine g_istore1 dX8_atom_142 rfl rfl (g_aload0 dX8_atom_143 (g_mget fl_X8_170 mg_29 dX8_atom_144 (g_if_ne (tgt := 161) dX8_atom_147 (by decide) (fun h147 => g_iload1 dX8_atom_161 (g_iret rfl dX8_atom_162 (Nat.le_of_ble_eq_true rfl) (Nat.le_of_ble_eq_true rfl) ?q162_14)) (fun h147 => g_aload0 dX8_atom_150 (?c151_14)))))
      case q162_14 => omega
      case c151_14 =>
        refine g_V0v dX8_atom_151 mv_X8_187 0 rfl rfl rfl (Nat.le_of_ble_eq_true rfl) (Nat.le_of_ble_eq_true rfl) (c_mnext (d := d + F + 7) hN hB hT hV (by omega)) (fun w1 hq => ?_)
        obtain ⟨v3, t3, rfl, hag3, hT3⟩ := hq
        refine g_goto (tgt := 161) dX8_atom_154 (by decide) (g_iload1 dX8_atom_161 (g_iret rfl dX8_atom_162 (Nat.le_of_ble_eq_true rfl) (Nat.le_of_ble_eq_true rfl) ?q162_15))
        refine hQ _ _ ⟨v3, t3, rfl, hag3.wk rfl, fun _ => ⟨by rw [hag3.at 29 rfl]; exact h29, by rw [hag3.at 28 rfl]; exact h28, by rw [← hF]; exact hT3, fun s => ?_⟩, fun q => ?_⟩
        · rw [← hF]
          exact evNm h5 s
        · rw [← hF] at q; cases q
    · have hw := hq.2 h5
      subst hw
      have hrf : r.1 = false ∧ r.2.1 = P := by
        rw [if_neg (by omega), if_neg h5] at hF
        by_cases h6 : 5 ≤ o
        · rw [if_pos h6] at hF; rw [← hF]; exact ⟨rfl, rfl⟩
        · rw [if_neg h6, if_neg (by omega), if_neg (by omega)] at hF; rw [← hF]; exact ⟨rfl, rfl⟩
      refine g_istore1 dX8_atom_142 rfl rfl (g_aload0 dX8_atom_143 (g_mget fl_X8_170 mg_29 dX8_atom_144 (g_if_ne (tgt := 161) dX8_atom_147 (by decide) (fun h147 => g_iload1 dX8_atom_161 (g_iret rfl dX8_atom_162 (Nat.le_of_ble_eq_true rfl) (Nat.le_of_ble_eq_true rfl) ?q162_16)) (fun h147 => g_aload0 dX8_atom_150 (?c151_16)))))
      case c151_16 =>
        unfold failV at h147
        rw [upd_o (by decide), upd_s] at h147
        omega
      case q162_16 => exact hQ _ _ (McP.bad hrf.1 rfl agV.rf (by rw [hrf.2]; exact h26))
  all_goals try omega
  all_goals exact wr (by omega) (by omega) (by omega) (by omega)
end S78
