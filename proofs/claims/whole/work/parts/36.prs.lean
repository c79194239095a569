section S36
variable {E : GE} {d : Nat} {a : Nat → Nat} {k : Nat} {adK adV ta : Nat → Nat} {T : List Nat} {e : Nat → Nat}
set_option maxRecDepth 20000 in
set_option maxHeartbeats 1000000 in
theorem c_readSum (hE : g_E E adK adV ta) {f : Nat} (ih : RC E a k T e d f 5) : RC E a k T e d (f + 1) 4 := by
  intro o P C w ho hne hw
  have hN := g_E_N hE
  have hw' := hw
  obtain ⟨tp, nu, code, ends, stk, hh, rfl, h3, h4⟩ := hw.lit
  have hp : prs T (f + 1) 4 o P = loopB T (fun t => t == 15 || t == 16) (prs T f 5 o) 160 (prs T f 5 o P) := rfl
  rw [hp]
  generalize hF : loopB T (fun t => t == 15 || t == 16) (prs T f 5 o) 160 (prs T f 5 o P) = F
  have hne2 : needN 5 o ≤ f := by unfold needN at *; omega
  show g_Ci E mX2_readSum _ _ _ _
  refine g_enterI hN.1 (by decide) [some (.ref (a k)), some (.int (nI o)), none, none, none] rfl (Nat.le_of_ble_eq_true rfl) (fun A Q hQ => ?_)
  have tc0 := tc_0; have tc1 := tc_1; have tc15 := tc_15; have tc16 := tc_16; have tc160 := tc_160
  have loop : ∀ (t i : Nat) (r : PR) (w : va_W) (l4 : Option Value), i + t = 160 → RT E a k T r.2.1 (addAll C r.2.2) e w → F = loopB T (fun t => t == 15 || t == 16) (prs T f 5 o) t r → G E mX2_readSum (d + (f + 1) + 10) 0 0 A Q 0 0 8 [some (.ref (a k)), some (.int (nI o)), some (.int (g_bi (r.1 = true))), some (.int (nI i)), l4] [] w := by
    intro t
    induction t with
    | zero =>
      intro i r w l4 hi hw hr
      have ei := t_nI (n := i) (by omega)
      refine g_iload3 dX2_readSum_8 (g_sipush ks_160 dX2_readSum_9 (g_icmp_ge (tgt := 68) dX2_readSum_12 (by decide) (fun h12 => g_iload2 dX2_readSum_68 (g_zret rfl (by first | exact g_bi01 _ | exact Or.inl rfl | exact Or.inr rfl) dX2_readSum_69 (Nat.le_of_ble_eq_true rfl) (Nat.le_of_ble_eq_true rfl) ?q69)) (fun h12 => ?s15)))
      case s15 => omega
      case q69 => exact hQ _ _ ⟨by rw [hr]; rfl, by rw [hr]; exact hw⟩
    | succ t ih2 =>
      intro i r w l4 hi hw hr
      have hw' := hw
      obtain ⟨tp, nu, code, ends, stk, hh, rfl, h3, h4⟩ := hw.lit
      have ei := t_nI (n := i) (by omega)
      have et := t_nI (n := r.2.1.1) (by omega)
      have hz := g_biz (p := (r.1 = true))
      rw [loopB] at hr
      have body : ¬ (g_bi (r.1 = true)).toInt = 0 → (r.2.1.1 = 15 ∨ r.2.1.1 = 16) → G E mX2_readSum (d + (f + 1) + 10) 0 0 A Q 0 0 37 [some (.ref (a k)), some (.int (nI o)), some (.int (g_bi (r.1 = true))), some (.int (nI i)), l4] [] (rdrW E a k tp (nI T.length) (nI r.2.1.2.2.1) (nI r.2.1.1) (nI r.2.1.2.1) nu ++ txtW E a (k + 2) code ends stk (nI (addAll C r.2.2).length) hh) := by
        intro h16 hop
        have hr1 : r.1 = true := by
          by_cases q : r.1 = true
          · exact q
          · exact absurd (hz.mpr q) h16
        rw [if_pos ⟨hr1, by rcases hop with q | q <;> rw [q] <;> rfl⟩] at hr
        refine g_aload0 dX2_readSum_37 (g_get fl_X2_31 0 rfl rfl dX2_readSum_38 (g_istore4 dX2_readSum_41 rfl rfl (g_aload0 dX2_readSum_43 (?c44_2))))
        refine g_V0v dX2_readSum_44 mv_X2_43 0 rfl rfl rfl (Nat.le_of_ble_eq_true rfl) (Nat.le_of_ble_eq_true rfl) (hw'.step hE) (fun w1 hq => ?_)
        obtain ⟨tp, nu, code, ends, stk, hh, rfl, h3, h4⟩ := hq.lit
        refine g_aload0 dX2_readSum_47 (g_iload1 dX2_readSum_48 (?c49_3))
        refine g_V1i dX2_readSum_49 mv_X2_76 0 rfl rfl rfl (Nat.le_of_ble_eq_true rfl) (Nat.le_of_ble_eq_true rfl) (ih o _ _ _ ho hne2 hq) (fun r1 w1 hq => ?_)
        obtain ⟨rfl, hq2⟩ := hq
        obtain ⟨tp, nu, code, ends, stk, hh, rfl, h3, h4⟩ := hq2.lit
        refine g_istore2 dX2_readSum_52 rfl rfl (g_aload0 dX2_readSum_53 (g_get fl_X2_18 0 rfl rfl dX2_readSum_54 (g_iload4 dX2_readSum_57 (?c59_4))))
        refine g_V1v dX2_readSum_59 mv_X2_64 2 rfl rfl rfl (Nat.le_of_ble_eq_true rfl) (Nat.le_of_ble_eq_true rfl) (hq2.add hN (nI r.2.1.1)) (fun w1 hq => ?_)
        refine g_iinc3 ki_1 dX2_readSum_62 rfl rfl (g_goto (tgt := 8) dX2_readSum_65 (by decide) (?s8_5))
        rw [nI_1]
        refine ih2 (i + 1) ((prs T f 5 o (lexP T r.2.1.2.2.1)).1, (prs T f 5 o (lexP T r.2.1.2.2.1)).2.1, r.2.2 ++ ((prs T f 5 o (lexP T r.2.1.2.2.1)).2.2 ++ [nI r.2.1.1])) _ _ (by omega) ?_ hr
        dsimp only
        rw [addAll_app, addAll_app, addAll_1]
        exact hq
      refine g_iload3 dX2_readSum_8 (g_sipush ks_160 dX2_readSum_9 (g_icmp_ge (tgt := 68) dX2_readSum_12 (by decide) (fun h12 => g_iload2 dX2_readSum_68 (g_zret rfl (by first | exact g_bi01 _ | exact Or.inl rfl | exact Or.inr rfl) dX2_readSum_69 (Nat.le_of_ble_eq_true rfl) (Nat.le_of_ble_eq_true rfl) ?q69_6)) (fun h12 => g_iload2 dX2_readSum_15 (g_if_eq (tgt := 68) dX2_readSum_16 (by decide) (fun h16 => g_iload2 dX2_readSum_68 (g_zret rfl (by first | exact g_bi01 _ | exact Or.inl rfl | exact Or.inr rfl) dX2_readSum_69 (Nat.le_of_ble_eq_true rfl) (Nat.le_of_ble_eq_true rfl) ?q69_6')) (fun h16 => g_aload0 dX2_readSum_19 (g_get fl_X2_31 0 rfl rfl dX2_readSum_20 (g_bipush kb_15 dX2_readSum_23 (g_icmp_eq (tgt := 37) dX2_readSum_25 (by decide) (fun h25 => ?s37_6) (fun h25 => g_aload0 dX2_readSum_28 (g_get fl_X2_31 0 rfl rfl dX2_readSum_29 (g_bipush kb_16 dX2_readSum_32 (g_icmp_ne (tgt := 68) dX2_readSum_34 (by decide) (fun h34 => g_iload2 dX2_readSum_68 (g_zret rfl (by first | exact g_bi01 _ | exact Or.inl rfl | exact Or.inr rfl) dX2_readSum_69 (Nat.le_of_ble_eq_true rfl) (Nat.le_of_ble_eq_true rfl) ?q69_6'')) (fun h34 => ?s37_6')))))))))))))
      case q69_6 => omega
      case q69_6' =>
        rw [if_neg (fun q => hz.mp h16 q.1)] at hr
        exact hQ _ _ ⟨by rw [hr], by rw [hr]; exact hw'⟩
      case s37_6 => exact body h16 (by omega)
      case q69_6'' =>
        rw [if_neg (fun q => by
          rcases (Bool.or_eq_true _ _).mp q.2 with z | z
          · have := beq_iff_eq.mp z; omega
          · have := beq_iff_eq.mp z; omega)] at hr
        exact hQ _ _ ⟨by rw [hr], by rw [hr]; exact hw'⟩
      case s37_6' => exact body h16 (by omega)
  refine g_aload0 dX2_readSum_0 (g_iload1 dX2_readSum_1 (?c2_7))
  refine g_V1i dX2_readSum_2 mv_X2_76 0 rfl rfl rfl (Nat.le_of_ble_eq_true rfl) (Nat.le_of_ble_eq_true rfl) (ih o _ _ _ ho hne2 hw') (fun r1 w1 hq => ?_)
  obtain ⟨rfl, hq2⟩ := hq
  refine g_istore2 dX2_readSum_5 rfl rfl (g_iconst ki_0 dX2_readSum_6 (g_istore3 dX2_readSum_7 rfl rfl (?s8_8)))
  exact loop 160 0 _ _ _ rfl hq2 hF.symm
set_option maxRecDepth 20000 in
set_option maxHeartbeats 1000000 in
theorem c_readNegation (hE : g_E E adK adV ta) {f : Nat} (ih : RC E a k T e d f 3) (ih2 : RC E a k T e d f 2) : RC E a k T e d (f + 1) 2 := by
  intro o P C w ho hne hw
  have hN := g_E_N hE
  have hw' := hw
  obtain ⟨tp, nu, code, ends, stk, hh, rfl, h3, h4⟩ := hw.lit
  have et := t_nI (n := P.1) (by omega)
  have eo := t_nI (n := o) (by omega)
  show g_Ci E mX2_readNegation _ _ _ _
  generalize hF : prs T (f + 1) 2 o P = F
  unfold prs at hF
  rw [if_neg (by omega), if_neg (by omega), if_pos rfl] at hF
  refine g_enterI hN.1 (by decide) [some (.ref (a k)), some (.int (nI o)), none] rfl (Nat.le_of_ble_eq_true rfl) (fun A Q hQ => ?_)
  have tc0 := tc_0; have tc1 := tc_1; have tc5 := tc_5; have tc11 := tc_11
  refine g_aload0 dX2_readNegation_0 (g_get fl_X2_31 0 rfl rfl dX2_readNegation_1 (g_bipush kb_11 dX2_readNegation_4 (g_icmp_eq (tgt := 15) dX2_readNegation_6 (by decide) (fun h6 => g_iload1 dX2_readNegation_15 (g_iconst ki_5 dX2_readNegation_16 (g_icmp_lt (tgt := 22) dX2_readNegation_17 (by decide) (fun h17 => g_aload0 dX2_readNegation_22 (?c23)) (fun h17 => g_iconst ki_0 dX2_readNegation_20 (g_zret rfl (by first | exact g_bi01 _ | exact Or.inl rfl | exact Or.inr rfl) dX2_readNegation_21 (Nat.le_of_ble_eq_true rfl) (Nat.le_of_ble_eq_true rfl) ?q21))))) (fun h6 => g_aload0 dX2_readNegation_9 (g_iload1 dX2_readNegation_10 (?c11))))))
  case c11 =>
    rw [if_neg (by omega)] at hF
    subst hF
    refine g_V1i dX2_readNegation_11 mv_X2_70 0 rfl rfl rfl (Nat.le_of_ble_eq_true rfl) (Nat.le_of_ble_eq_true rfl) (ih o _ _ _ ho (by unfold needN at *; omega) hw') (fun r1 w1 hq => ?_)
    obtain ⟨rfl, hq2⟩ := hq
    refine g_zret rfl (by first | exact g_bi01 _ | exact Or.inl rfl | exact Or.inr rfl) dX2_readNegation_14 (Nat.le_of_ble_eq_true rfl) (Nat.le_of_ble_eq_true rfl) ?q14_2
    exact hQ _ _ ⟨rfl, hq2⟩
  case q21 =>
    rw [if_pos (by omega), if_pos (by omega)] at hF
    subst hF
    exact hQ _ _ ⟨rfl, hw'⟩
  case c23 =>
    rw [if_pos (by omega), if_neg (by omega)] at hF
    subst hF
    refine g_V0v dX2_readNegation_23 mv_X2_43 0 rfl rfl rfl (Nat.le_of_ble_eq_true rfl) (Nat.le_of_ble_eq_true rfl) (hw'.step hE) (fun w1 hq => ?_)
    obtain ⟨tp, nu, code, ends, stk, hh, rfl, h3, h4⟩ := hq.lit
    refine g_aload0 dX2_readNegation_26 (g_iload1 dX2_readNegation_27 (g_iconst ki_1 dX2_readNegation_28 (g_iadd dX2_readNegation_29 (?c30_3))))
    rw [nI_1]
    refine g_V1i dX2_readNegation_30 mv_X2_67 0 rfl rfl rfl (Nat.le_of_ble_eq_true rfl) (Nat.le_of_ble_eq_true rfl) (ih2 (o + 1) _ _ _ (by omega) (by unfold needN at *; omega) hq) (fun r1 w1 hq => ?_)
    obtain ⟨rfl, hq2⟩ := hq
    obtain ⟨tp, nu, code, ends, stk, hh, rfl, h3, h4⟩ := hq2.lit
    refine g_istore2 dX2_readNegation_33 rfl rfl (g_aload0 dX2_readNegation_34 (g_get fl_X2_18 0 rfl rfl dX2_readNegation_35 (g_bipush kb_11 dX2_readNegation_38 (?c40_4))))
    refine g_V1v dX2_readNegation_40 mv_X2_64 2 rfl rfl rfl (Nat.le_of_ble_eq_true rfl) (Nat.le_of_ble_eq_true rfl) (hq2.add hN 11) (fun w1 hq => ?_)
    refine g_iload2 dX2_readNegation_43 (g_zret rfl (by first | exact g_bi01 _ | exact Or.inl rfl | exact Or.inr rfl) dX2_readNegation_44 (Nat.le_of_ble_eq_true rfl) (Nat.le_of_ble_eq_true rfl) ?q44_5)
    exact hQ _ _ ⟨rfl, by dsimp only; rw [addAll_app, addAll_1]; exact hq⟩
set_option maxRecDepth 20000 in
set_option maxHeartbeats 1000000 in
theorem c_readComparison (hE : g_E E adK adV ta) {f : Nat} (ih : RC E a k T e d f 4) : RC E a k T e d (f + 1) 3 := by
  intro o P C w ho hne hw
  have hN := g_E_N hE
  have hw' := hw
  obtain ⟨tp, nu, code, ends, stk, hh, rfl, h3, h4⟩ := hw.lit
  show g_Ci E mX2_readComparison _ _ _ _
  have hne2 : needN 4 o ≤ f := by unfold needN at *; omega
  have hp : prs T (f + 1) 3 o P = if (prs T f 4 o P).1 = true ∧ ((prs T f 4 o P).2.1.1 = 18 ∨ (prs T f 4 o P).2.1.1 = 19) then ((prs T f 4 o (lexP T (prs T f 4 o P).2.1.2.2.1)).1, (prs T f 4 o (lexP T (prs T f 4 o P).2.1.2.2.1)).2.1, (prs T f 4 o P).2.2 ++ ((prs T f 4 o (lexP T (prs T f 4 o P).2.1.2.2.1)).2.2 ++ [nI (prs T f 4 o P).2.1.1])) else prs T f 4 o P := rfl
  rw [hp]
  refine g_enterI hN.1 (by decide) [some (.ref (a k)), some (.int (nI o)), none, none] rfl (Nat.le_of_ble_eq_true rfl) (fun A Q hQ => ?_)
  have tc18 := tc_18; have tc19 := tc_19
  refine g_aload0 dX2_readComparison_0 (g_iload1 dX2_readComparison_1 (?c2))
  refine g_V1i dX2_readComparison_2 mv_X2_73 0 rfl rfl rfl (Nat.le_of_ble_eq_true rfl) (Nat.le_of_ble_eq_true rfl) (ih o _ _ _ ho hne2 hw') (fun r1 w1 hq => ?_)
  obtain ⟨rfl, hq1⟩ := hq
  generalize hr1 : prs T f 4 o P = r1 at *
  obtain ⟨tp, nu, code, ends, stk, hh, rfl, h3, h4⟩ := hq1.lit
  have et := t_nI (n := r1.2.1.1) (by omega)
  have hz := g_biz (p := (r1.1 = true))
  have body : ¬ (g_bi (r1.1 = true)).toInt = 0 → (r1.2.1.1 = 18 ∨ r1.2.1.1 = 19) → G E mX2_readComparison (d + (f + 1) + 10) 0 0 A Q 0 0 27 [some (.ref (a k)), some (.int (nI o)), some (.int (g_bi (r1.1 = true))), some (.int (nI r1.2.1.1))] [] (rdrW E a k tp (nI T.length) (nI r1.2.1.2.2.1) (nI r1.2.1.1) (nI r1.2.1.2.1) nu ++ txtW E a (k + 2) code ends stk (nI (addAll C r1.2.2).length) hh) := by
    intro h12 hop
    have hrt : r1.1 = true := by
      by_cases q : r1.1 = true
      · exact q
      · exact absurd (hz.mpr q) h12
    rw [if_pos ⟨hrt, hop⟩] at hQ
    refine g_aload0 dX2_readComparison_27 (?c28_2)
    refine g_V0v dX2_readComparison_28 mv_X2_43 0 rfl rfl rfl (Nat.le_of_ble_eq_true rfl) (Nat.le_of_ble_eq_true rfl) (hq1.step hE) (fun w1 hq => ?_)
    obtain ⟨tp, nu, code, ends, stk, hh, rfl, h3, h4⟩ := hq.lit
    refine g_aload0 dX2_readComparison_31 (g_iload1 dX2_readComparison_32 (?c33_3))
    refine g_V1i dX2_readComparison_33 mv_X2_73 0 rfl rfl rfl (Nat.le_of_ble_eq_true rfl) (Nat.le_of_ble_eq_true rfl) (ih o _ _ _ ho hne2 hq) (fun r1 w1 hq => ?_)
    obtain ⟨rfl, hq2⟩ := hq
    obtain ⟨tp, nu, code, ends, stk, hh, rfl, h3, h4⟩ := hq2.lit
    refine g_istore2 dX2_readComparison_36 rfl rfl (g_aload0 dX2_readComparison_37 (g_get fl_X2_18 0 rfl rfl dX2_readComparison_38 (g_iload3 dX2_readComparison_41 (?c42_4))))
    refine g_V1v dX2_readComparison_42 mv_X2_64 2 rfl rfl rfl (Nat.le_of_ble_eq_true rfl) (Nat.le_of_ble_eq_true rfl) (hq2.add hN (nI r1.2.1.1)) (fun w1 hq => ?_)
    refine g_iload2 dX2_readComparison_45 (g_zret rfl (by first | exact g_bi01 _ | exact Or.inl rfl | exact Or.inr rfl) dX2_readComparison_46 (Nat.le_of_ble_eq_true rfl) (Nat.le_of_ble_eq_true rfl) ?q46_5)
    exact hQ _ _ ⟨rfl, by dsimp only; rw [addAll_app, addAll_app, addAll_1]; exact hq⟩
  refine g_istore2 dX2_readComparison_5 rfl rfl (g_aload0 dX2_readComparison_6 (g_get fl_X2_31 0 rfl rfl dX2_readComparison_7 (g_istore3 dX2_readComparison_10 rfl rfl (g_iload2 dX2_readComparison_11 (g_if_eq (tgt := 45) dX2_readComparison_12 (by decide) (fun h12 => g_iload2 dX2_readComparison_45 (g_zret rfl (by first | exact g_bi01 _ | exact Or.inl rfl | exact Or.inr rfl) dX2_readComparison_46 (Nat.le_of_ble_eq_true rfl) (Nat.le_of_ble_eq_true rfl) ?q46_6)) (fun h12 => g_iload3 dX2_readComparison_15 (g_bipush kb_18 dX2_readComparison_16 (g_icmp_eq (tgt := 27) dX2_readComparison_18 (by decide) (fun h18 => ?s27_6) (fun h18 => g_iload3 dX2_readComparison_21 (g_bipush kb_19 dX2_readComparison_22 (g_icmp_ne (tgt := 45) dX2_readComparison_24 (by decide) (fun h24 => g_iload2 dX2_readComparison_45 (g_zret rfl (by first | exact g_bi01 _ | exact Or.inl rfl | exact Or.inr rfl) dX2_readComparison_46 (Nat.le_of_ble_eq_true rfl) (Nat.le_of_ble_eq_true rfl) ?q46_6')) (fun h24 => ?s27_6'))))))))))))
  case q46_6 =>
    rw [if_neg (fun q => hz.mp h12 q.1)] at hQ
    exact hQ _ _ ⟨rfl, hq1⟩
  case s27_6 => exact body h12 (by omega)
  case q46_6' =>
    rw [if_neg (fun q => by omega)] at hQ
    exact hQ _ _ ⟨rfl, hq1⟩
  case s27_6' => exact body h12 (by omega)
set_option maxRecDepth 20000 in
set_option maxHeartbeats 1000000 in
theorem c_readOne (hE : g_E E adK adV ta) {f : Nat} (ih : RC E a k T e d f 6) (ih2 : RC E a k T e d f 0) : RC E a k T e d (f + 1) 6 := by
  intro o P C w ho hne hw
  have hN := g_E_N hE
  have hw' := hw
  obtain ⟨tp, nu, code, ends, stk, hh, rfl, h3, h4⟩ := hw.lit
  have et := t_nI (n := P.1) (by omega)
  have eo := t_nI (n := o) (by omega)
  show g_Ci E mX2_readOne _ _ _ _
  generalize hF : prs T (f + 1) 6 o P = F
  unfold prs at hF
  rw [if_neg (by omega), if_neg (by omega), if_neg (by omega), if_neg (by omega), if_neg (by omega), if_neg (by omega)] at hF
  refine g_enterI hN.1 (by decide) [some (.ref (a k)), some (.int (nI o)), none] rfl (Nat.le_of_ble_eq_true rfl) (fun A Q hQ => ?_)
  have tc0 := tc_0; have tc1 := tc_1; have tc5 := tc_5; have tc12 := tc_12; have tc13 := tc_13; have tc16 := tc_16; have tc20 := tc_20; have tc21 := tc_21
  have hz := g_biz (p := ((0 : Int32).toInt ≤ (nI P.1).toInt ∧ (nI P.1).toInt ≤ (5 : Int32).toInt))
  refine g_aload0 dX2_readOne_0 (g_get fl_X2_31 0 rfl rfl dX2_readOne_1 (g_bipush kb_21 dX2_readOne_4 (g_icmp_ne (tgt := 26) dX2_readOne_6 (by decide) (fun h6 => g_aload0 dX2_readOne_26 (g_get fl_X2_31 0 rfl rfl dX2_readOne_27 (g_iconst ki_0 dX2_readOne_30 (g_iconst ki_5 dX2_readOne_31 (r_X7_isWithinN hN (mn_X2_85 hN) dX2_readOne_32 (Nat.le_of_ble_eq_true rfl) (Nat.le_of_ble_eq_true rfl) rfl (g_if_eq (tgt := 55) dX2_readOne_35 (by decide) (fun h35 => g_iload1 dX2_readOne_55 (g_iconst ki_5 dX2_readOne_56 (g_icmp_lt (tgt := 62) dX2_readOne_57 (by decide) (fun h57 => g_aload0 dX2_readOne_62 (g_get fl_X2_31 0 rfl rfl dX2_readOne_63 (g_bipush kb_16 dX2_readOne_66 (g_icmp_ne (tgt := 94) dX2_readOne_68 (by decide) (fun h68 => g_aload0 dX2_readOne_94 (g_bipush kb_12 dX2_readOne_95 (?c97))) (fun h68 => g_aload0 dX2_readOne_71 (?c72)))))) (fun h57 => g_iconst ki_0 dX2_readOne_60 (g_zret rfl (by first | exact g_bi01 _ | exact Or.inl rfl | exact Or.inr rfl) dX2_readOne_61 (Nat.le_of_ble_eq_true rfl) (Nat.le_of_ble_eq_true rfl) ?q61))))) (fun h35 => g_aload0 dX2_readOne_38 (g_get fl_X2_18 0 rfl rfl dX2_readOne_39 (g_aload0 dX2_readOne_42 (g_get fl_X2_31 0 rfl rfl dX2_readOne_43 (?c46))))))))))) (fun h6 => g_aload0 dX2_readOne_9 (g_get fl_X2_18 0 rfl rfl dX2_readOne_10 (g_aload0 dX2_readOne_13 (g_get fl_X2_37 0 rfl rfl dX2_readOne_14 (?c17))))))))
  case c17 =>
    have h21 : P.1 = 21 := by omega
    rw [if_pos h21] at hF
    subst hF
    rw [(h4 h21).1] at hw' ⊢
    refine g_V1v dX2_readOne_17 mv_X2_82 2 rfl rfl rfl (Nat.le_of_ble_eq_true rfl) (Nat.le_of_ble_eq_true rfl) (hw'.addN hN (nI P.2.2.2)) (fun w1 hq => ?_)
    obtain ⟨tp, nu, code, ends, stk, hh, rfl, h3, h4⟩ := hq.lit
    refine g_aload0 dX2_readOne_20 (?c21_2)
    refine g_V0v dX2_readOne_21 mv_X2_43 0 rfl rfl rfl (Nat.le_of_ble_eq_true rfl) (Nat.le_of_ble_eq_true rfl) (hq.step hE) (fun w1 hq => ?_)
    refine g_iconst ki_1 dX2_readOne_24 (g_zret rfl (by first | exact g_bi01 _ | exact Or.inl rfl | exact Or.inr rfl) dX2_readOne_25 (Nat.le_of_ble_eq_true rfl) (Nat.le_of_ble_eq_true rfl) ?q25_3)
    exact hQ _ _ ⟨rfl, hq⟩
  all_goals rw [if_neg (by omega)] at hF
  case c46 =>
    rw [if_pos (by omega)] at hF
    subst hF
    refine g_V1v dX2_readOne_46 mv_X2_64 2 rfl rfl rfl (Nat.le_of_ble_eq_true rfl) (Nat.le_of_ble_eq_true rfl) (hw'.add hN (nI P.1)) (fun w1 hq => ?_)
    obtain ⟨tp, nu, code, ends, stk, hh, rfl, h3, h4⟩ := hq.lit
    refine g_aload0 dX2_readOne_49 (?c50_4)
    refine g_V0v dX2_readOne_50 mv_X2_43 0 rfl rfl rfl (Nat.le_of_ble_eq_true rfl) (Nat.le_of_ble_eq_true rfl) (hq.step hE) (fun w1 hq => ?_)
    refine g_iconst ki_1 dX2_readOne_53 (g_zret rfl (by first | exact g_bi01 _ | exact Or.inl rfl | exact Or.inr rfl) dX2_readOne_54 (Nat.le_of_ble_eq_true rfl) (Nat.le_of_ble_eq_true rfl) ?q54_5)
    exact hQ _ _ ⟨rfl, hq⟩
  all_goals rw [if_neg (by omega)] at hF
  case q61 =>
    rw [if_pos (by omega)] at hF
    subst hF
    exact hQ _ _ ⟨rfl, hw'⟩
  all_goals rw [if_neg (by omega)] at hF
  case c72 =>
    rw [if_pos (by omega)] at hF
    subst hF
    refine g_V0v dX2_readOne_72 mv_X2_43 0 rfl rfl rfl (Nat.le_of_ble_eq_true rfl) (Nat.le_of_ble_eq_true rfl) (hw'.step hE) (fun w1 hq => ?_)
    obtain ⟨tp, nu, code, ends, stk, hh, rfl, h3, h4⟩ := hq.lit
    refine g_aload0 dX2_readOne_75 (g_iload1 dX2_readOne_76 (g_iconst ki_1 dX2_readOne_77 (g_iadd dX2_readOne_78 (?c79_6))))
    rw [nI_1]
    refine g_V1i dX2_readOne_79 mv_X2_79 0 rfl rfl rfl (Nat.le_of_ble_eq_true rfl) (Nat.le_of_ble_eq_true rfl) (ih (o + 1) _ _ _ (by omega) (by unfold needN at *; omega) hq) (fun r1 w1 hq => ?_)
    obtain ⟨rfl, hq2⟩ := hq
    obtain ⟨tp, nu, code, ends, stk, hh, rfl, h3, h4⟩ := hq2.lit
    refine g_istore2 dX2_readOne_82 rfl rfl (g_aload0 dX2_readOne_83 (g_get fl_X2_18 0 rfl rfl dX2_readOne_84 (g_bipush kb_20 dX2_readOne_87 (?c89_7))))
    refine g_V1v dX2_readOne_89 mv_X2_64 2 rfl rfl rfl (Nat.le_of_ble_eq_true rfl) (Nat.le_of_ble_eq_true rfl) (hq2.add hN 20) (fun w1 hq => ?_)
    refine g_iload2 dX2_readOne_92 (g_zret rfl (by first | exact g_bi01 _ | exact Or.inl rfl | exact Or.inr rfl) dX2_readOne_93 (Nat.le_of_ble_eq_true rfl) (Nat.le_of_ble_eq_true rfl) ?q93_8)
    exact hQ _ _ ⟨rfl, by dsimp only; rw [addAll_app, addAll_1]; exact hq⟩
  case c97 =>
    rw [if_neg (by omega)] at hF
    refine g_V1i dX2_readOne_97 mv_X2_46 0 rfl rfl rfl (Nat.le_of_ble_eq_true rfl) (Nat.le_of_ble_eq_true rfl) (c_pass hE hw' (q := 12) (by omega)) (fun r1 w1 hq => ?_)
    obtain ⟨rfl, hq1⟩ := hq
    have hz1 := g_biz (p := (P.1 = 12))
    by_cases h12 : P.1 = 12
    · rw [if_pos h12] at hF hq1
      obtain ⟨tp, nu, code, ends, stk, hh, rfl, h3, h4⟩ := hq1.lit
      refine g_if_eq (tgt := 126) dX2_readOne_100 (by decide) (fun h100 => ?s126_9) (fun h100 => g_aload0 dX2_readOne_103 (g_iload1 dX2_readOne_104 (g_iconst ki_1 dX2_readOne_105 (g_iadd dX2_readOne_106 (?c107_9)))))
      case s126_9 => exact absurd h12 (hz1.mp h100)
      case c107_9 =>
        rw [nI_1]
        refine g_V1i dX2_readOne_107 mv_X2_50 0 rfl rfl rfl (Nat.le_of_ble_eq_true rfl) (Nat.le_of_ble_eq_true rfl) (ih2 (o + 1) _ _ _ (by omega) (by unfold needN at *; omega) hq1) (fun r1 w1 hq => ?_)
        obtain ⟨rfl, hq2⟩ := hq
        generalize hr1 : prs T f 0 (o + 1) (lexP T P.2.2.1) = r1 at *
        obtain ⟨tp, nu, code, ends, stk, hh, rfl, h3, h4⟩ := hq2.lit
        have hz2 := g_biz (p := (r1.1 = true))
        refine g_if_eq (tgt := 126) dX2_readOne_110 (by decide) (fun h110 => g_iconst ki_0 dX2_readOne_126 (g_zret rfl (by first | exact g_bi01 _ | exact Or.inl rfl | exact Or.inr rfl) dX2_readOne_127 (Nat.le_of_ble_eq_true rfl) (Nat.le_of_ble_eq_true rfl) ?q127_10)) (fun h110 => g_aload0 dX2_readOne_113 (g_bipush kb_13 dX2_readOne_114 (?c116_10)))
        case q127_10 =>
          rw [if_neg (fun q => hz2.mp h110 q.1)] at hF
          subst hF
          exact hQ _ _ ⟨rfl, hq2⟩
        case c116_10 =>
          have hrt : r1.1 = true := by
            by_cases q : r1.1 = true
            · exact q
            · exact absurd (hz2.mpr q) h110
          refine g_V1i dX2_readOne_116 mv_X2_46 0 rfl rfl rfl (Nat.le_of_ble_eq_true rfl) (Nat.le_of_ble_eq_true rfl) (c_pass hE hq2 (q := 13) (by omega)) (fun r1 w1 hq => ?_)
          obtain ⟨rfl, hq3⟩ := hq
          have hz3 := g_biz (p := (r1.2.1.1 = 13))
          refine g_if_eq (tgt := 126) dX2_readOne_119 (by decide) (fun h119 => g_iconst ki_0 dX2_readOne_126 (g_zret rfl (by first | exact g_bi01 _ | exact Or.inl rfl | exact Or.inr rfl) dX2_readOne_127 (Nat.le_of_ble_eq_true rfl) (Nat.le_of_ble_eq_true rfl) ?q127_11)) (fun h119 => g_iconst ki_1 dX2_readOne_122 (g_goto (tgt := 127) dX2_readOne_123 (by decide) (g_zret rfl (by first | exact g_bi01 _ | exact Or.inl rfl | exact Or.inr rfl) dX2_readOne_127 (Nat.le_of_ble_eq_true rfl) (Nat.le_of_ble_eq_true rfl) ?q127_11')))
          case q127_11 =>
            have h13 := hz3.mp h119
            rw [if_neg (fun q => h13 q.2)] at hF
            rw [if_neg h13] at hq3
            subst hF
            exact hQ _ _ ⟨rfl, hq3⟩
          case q127_11' =>
            have h13 : r1.2.1.1 = 13 := by
              by_cases q : r1.2.1.1 = 13
              · exact q
              · exact absurd (hz3.mpr q) h119
            rw [if_pos ⟨hrt, h13⟩] at hF
            rw [if_pos h13] at hq3
            subst hF
            exact hQ _ _ ⟨rfl, hq3⟩
    · rw [if_neg h12] at hF hq1
      subst hF
      refine g_if_eq (tgt := 126) dX2_readOne_100 (by decide) (fun h100 => g_iconst ki_0 dX2_readOne_126 (g_zret rfl (by first | exact g_bi01 _ | exact Or.inl rfl | exact Or.inr rfl) dX2_readOne_127 (Nat.le_of_ble_eq_true rfl) (Nat.le_of_ble_eq_true rfl) ?q127_12)) (fun h100 => ?s103_12)
      case q127_12 => exact hQ _ _ ⟨rfl, hq1⟩
      case s103_12 => exact absurd (hz1.mpr h12) h100
/-- the reading of expressions -/
theorem c_read (hE : g_E E adK adV ta) : ∀ (f L : Nat), L ≤ 6 → RC E a k T e d f L := by
  intro f
  induction f with
  | zero =>
    intro L hL o P C w ho hne
    unfold needN at hne
    omega
  | succ f ih =>
    intro L hL
    match L, hL with
    | 0, _ => exact c_readExpression hE (ih 1 (by omega))
    | 1, _ => exact c_readConjunction hE (ih 2 (by omega))
    | 2, _ => exact c_readNegation hE (ih 3 (by omega)) (ih 2 (by omega))
    | 3, _ => exact c_readComparison hE (ih 4 (by omega))
    | 4, _ => exact c_readSum hE (ih 5 (by omega))
    | 5, _ => exact c_readTerm hE (ih 6 (by omega))
    | 6, _ => exact c_readOne hE (ih 6 (by omega)) (ih 0 (by omega))
end S36
