/-! a whole text -/
abbrev RS : Type := Bool × PS × List Int32 × (Nat → Nat)
def rdPart (T : List Nat) (p : Nat) (s : RS) : RS :=
  if s.2.1.1 = 6 + p then
    if (prs T 42 0 0 (lexP T s.2.1.2.2.1)).1 = true ∧ (prs T 42 0 0 (lexP T s.2.1.2.2.1)).2.1.1 = 14 then (true, lexP T (prs T 42 0 0 (lexP T s.2.1.2.2.1)).2.1.2.2.1, addAll s.2.2.1 (prs T 42 0 0 (lexP T s.2.1.2.2.1)).2.2, updN s.2.2.2 p (addAll s.2.2.1 (prs T 42 0 0 (lexP T s.2.1.2.2.1)).2.2).length)
    else (false, (prs T 42 0 0 (lexP T s.2.1.2.2.1)).2.1, addAll s.2.2.1 (prs T 42 0 0 (lexP T s.2.1.2.2.1)).2.2, updN s.2.2.2 p (addAll s.2.2.1 (prs T 42 0 0 (lexP T s.2.1.2.2.1)).2.2).length)
  else (false, s.2.1, s.2.2.1, updN s.2.2.2 p s.2.2.1.length)
def rdF (T : List Nat) : Nat → Nat → RS → RS
  | 0, _, s => s
  | t + 1, p, s => if s.1 = true then rdF T t (p + 1) (rdPart T p s) else s
def rdAll (T : List Nat) (e0 : Nat → Nat) : RS := rdF T 3 0 (true, lexP T 0, [], e0)
def rdOK (s : RS) : Prop := s.1 = true ∧ s.2.1.1 = 22
def RdrI (E : GE) (a : Nat → Nat) (k : Nat) (T : List Nat) (w : va_W) : Prop := ∃ tp nx tk at_ nu, w = rdrW E a k tp (nI T.length) nx tk at_ nu ∧ tpOK T tp
section S37
variable {E : GE} {d : Nat} {a b : Nat → Nat} {k k2 : Nat} {adK adV ta : Nat → Nat} {T : List Nat} {e0 e1 : Nat → Nat} {C0 C1 : List Int32} {w1 w2 w3 : va_W}
theorem RT.endP (hN : g_N E) {P : PS} {C : List Int32} {e : Nat → Nat} {w : va_W} (h : RT E a k T P C e w) {p : Nat} (hp : p < 3) : g_Cv E mX5_endPart (d + 2) [.ref (a (k + 2)), .int (nI p)] w (fun w' => RT E a k T P C (updN e p C.length) w') := by
  obtain ⟨w1, w2, h1, h2, rfl⟩ := h
  have := ((c_endPart (d := d) hN h2 hp).frame (X := w1) (Y := []))
  rw [List.append_nil] at this
  exact this.post (fun w' hw => by obtain ⟨w3, h3, rfl⟩ := hw; rw [List.append_nil]; exact ⟨w1, w3, h1, h3, rfl⟩)
set_option maxRecDepth 20000 in
set_option maxHeartbeats 2000000 in
theorem c_readInto (hE : g_E E adK adV ta) (h1 : RdrI E a k T w1) (h2 : Txt E a (k + 2) C0 e0 w2) (h3 : Txt E b k2 C1 e1 w3) : g_Ci E mX2_readInto (d + 60) [.ref (a k), .ref (b k2)] ((w1 ++ w2) ++ w3) (fun r w' => ∃ w1' w2' w3', w' = (w1' ++ w2') ++ w3' ∧ RdrI E a k [] w1' ∧ (∃ C e, Txt E a (k + 2) C e w2') ∧ (rdOK (rdAll T e0) → r = -1 ∧ Txt E b k2 (rdAll T e0).2.2.1 (rdAll T e0).2.2.2 w3') ∧ (¬ rdOK (rdAll T e0) → r = nI (rdAll T e0).2.1.2.1 ∧ (rdAll T e0).2.1.2.1 ≤ 160 ∧ w3' = w3)) := by
  have hN := g_E_N hE
  have h2' := h2
  have h3' := h3
  obtain ⟨tp, nx, tk, at_, nu, rfl, hT⟩ := h1
  obtain ⟨-, code, ends, stk, hh, rfl, -⟩ := h2
  obtain ⟨-, code3, ends3, stk3, hh3, rfl, -⟩ := h3
  have h160 := hT.1
  refine g_enterI hN.1 (by decide) [some (.ref (a k)), some (.ref (b k2)), none, none] rfl (Nat.le_of_ble_eq_true rfl) (fun A Q hQ => ?_)
  have tcm1 := tc_m1; have tc0 := tc_0; have tc1 := tc_1; have tc3 := tc_3; have tc6 := tc_6; have tc14 := tc_14; have tc22 := tc_22
  generalize hF : rdAll T e0 = F at hQ
  have fin : ∀ l3 w, RT E a k T F.2.1 F.2.2.1 F.2.2.2 w → G E mX2_readInto (d + 60) 0 0 A Q 0 0 77 [some (.ref (a k)), some (.ref (b k2)), some (.int (g_bi (F.1 = true))), l3] [] (w ++ txtW E b k2 code3 ends3 stk3 (nI C1.length) hh3) := by
    intro l3 w hw
    obtain ⟨w1, w2, hR, hX, rfl⟩ := hw
    have hX' := hX
    obtain ⟨tp, nu, rfl, hT, g1, g2, -, -⟩ := hR
    obtain ⟨-, code, ends, stk, hh, rfl, -⟩ := hX
    have et := t_nI (n := F.2.1.1) (by omega)
    have hz := g_biz (p := (F.1 = true))
    have hI : RdrI E a k [] (rdrW E a k tp 0 (nI F.2.1.2.2.1) (nI F.2.1.1) (nI F.2.1.2.1) nu) := ⟨tp, _, _, _, _, rfl, ⟨Nat.zero_le _, (fun b hb => by cases hb), (fun i x h => by simp at h)⟩⟩
    refine g_aload0 dX2_readInto_77 (g_iconst ki_0 dX2_readInto_78 (g_put fl_X2_22 fp_2_2 0 rfl rfl rfl (Nat.le_of_ble_eq_true rfl) dX2_readInto_79 (g_iload2 dX2_readInto_82 (g_if_eq (tgt := 95) dX2_readInto_83 (by decide) (fun h83 => g_aload0 dX2_readInto_95 (g_get fl_X2_34 0 rfl rfl dX2_readInto_96 (g_iret rfl dX2_readInto_99 (Nat.le_of_ble_eq_true rfl) (Nat.le_of_ble_eq_true rfl) ?q99))) (fun h83 => g_aload0 dX2_readInto_86 (g_get fl_X2_31 0 rfl rfl dX2_readInto_87 (g_bipush kb_22 dX2_readInto_90 (g_icmp_eq (tgt := 100) dX2_readInto_92 (by decide) (fun h92 => g_aload1 dX2_readInto_100 (g_aload0 dX2_readInto_101 (g_get fl_X2_18 0 rfl rfl dX2_readInto_102 (?c105)))) (fun h92 => g_aload0 dX2_readInto_95 (g_get fl_X2_34 0 rfl rfl dX2_readInto_96 (g_iret rfl dX2_readInto_99 (Nat.le_of_ble_eq_true rfl) (Nat.le_of_ble_eq_true rfl) ?q99')))))))))))
    case q99 =>
      refine hQ _ _ ⟨_, _, _, rfl, hI, ⟨_, _, hX'⟩, fun q => absurd q.1 (hz.mp h83), fun _ => ⟨rfl, by omega, rfl⟩⟩
    case q99' =>
      refine hQ _ _ ⟨_, _, _, rfl, hI, ⟨_, _, hX'⟩, fun q => absurd q.2 (by omega), fun _ => ⟨rfl, by omega, rfl⟩⟩
    case c105 =>
      have hok : rdOK F := ⟨by
        by_cases q : F.1 = true
        · exact q
        · exact absurd (hz.mpr q) h83, by omega⟩
      dsimp only [List.set]
      refine g_sub (ws' := (txtW E b k2 code3 ends3 stk3 (nI C1.length) hh3 ++ txtW E a (k + 2) code ends stk (nI F.2.2.1.length) hh) ++ rdrW E a k tp 0 (nI F.2.1.2.2.1) (nI F.2.1.1) (nI F.2.1.2.1) nu) [6, 7, 8, 9, 2, 3, 4, 5, 0, 1] (by decide) rfl ?_
      refine g_V1v dX2_readInto_105 mv_X2_57 0 rfl rfl rfl (Nat.le_of_ble_eq_true rfl) (Nat.le_of_ble_eq_true rfl) ((c_txtBecome hN h3' hX').frame (X := [])) (fun w1 hq => ?_)
      obtain ⟨w5, ⟨w6, hw6, rfl⟩, rfl⟩ := hq
      have hw6' := hw6
      obtain ⟨-, code6, ends6, stk6, hh6, rfl, -⟩ := hw6
      refine g_sub (ws' := (rdrW E a k tp 0 (nI F.2.1.2.2.1) (nI F.2.1.1) (nI F.2.1.2.1) nu ++ txtW E a (k + 2) code ends stk (nI F.2.2.1.length) hh) ++ txtW E b k2 code6 ends6 stk6 (nI F.2.2.1.length) hh6) [8, 9, 4, 5, 6, 7, 0, 1, 2, 3] (by decide) rfl ?_
      refine g_iconst ki_m1 dX2_readInto_108 (g_iret rfl dX2_readInto_109 (Nat.le_of_ble_eq_true rfl) (Nat.le_of_ble_eq_true rfl) ?q109_2)
      exact hQ _ _ ⟨_, _, _, rfl, hI, ⟨_, _, hX'⟩, fun _ => ⟨rfl, hw6'⟩, fun q => absurd hok q⟩
  have loop : ∀ t p s w, p + t = 3 → F = rdF T t p s → RT E a k T s.2.1 s.2.2.1 s.2.2.2 w → G E mX2_readInto (d + 60) 0 0 A Q 0 0 20 [some (.ref (a k)), some (.ref (b k2)), some (.int (g_bi (s.1 = true))), some (.int (nI p))] [] (w ++ txtW E b k2 code3 ends3 stk3 (nI C1.length) hh3) := by
    intro t
    induction t with
    | zero =>
      intro p s w hp hs hw
      have ep := t_nI (n := p) (by omega)
      rw [rdF] at hs
      subst hs
      refine g_iload3 dX2_readInto_20 (g_iconst ki_3 dX2_readInto_21 (g_icmp_ge (tgt := 77) dX2_readInto_22 (by decide) (fun h22 => ?s77_3) (fun h22 => ?s25_3)))
      case s77_3 => exact fin _ _ hw
      case s25_3 => omega
    | succ t ih =>
      intro p s w hp hs hw
      have ep := t_nI (n := p) (by omega)
      have hz := g_biz (p := (s.1 = true))
      rw [rdF] at hs
      by_cases hst : s.1 = true
      · rw [if_pos hst] at hs
        have hw' := hw
        obtain ⟨tp, nu, code, ends, stk, hh, rfl, g1, g2⟩ := hw.lit
        have hpart : ∀ (r : RS) w, rdPart T p s = (r.1, r.2.1, r.2.2.1, updN r.2.2.2 p r.2.2.1.length) → RT E a k T r.2.1 r.2.2.1 r.2.2.2 w → G E mX2_readInto (d + 60) 0 0 A Q 0 0 62 [some (.ref (a k)), some (.ref (b k2)), some (.int (g_bi (s.1 = true))), some (.int (nI p))] [.int (g_bi (r.1 = true))] (w ++ txtW E b k2 code3 ends3 stk3 (nI C1.length) hh3) := by
          intro r w hr hw
          have hw' := hw
          obtain ⟨tp, nu, code, ends, stk, hh, rfl, g1, g2⟩ := hw.lit
          refine g_istore2 dX2_readInto_62 rfl rfl (g_aload0 dX2_readInto_63 (g_get fl_X2_18 0 rfl rfl dX2_readInto_64 (g_iload3 dX2_readInto_67 (?c68_4))))
          refine g_V1v dX2_readInto_68 mv_X2_53 2 rfl rfl rfl (Nat.le_of_ble_eq_true rfl) (Nat.le_of_ble_eq_true rfl) ((hw'.endP hN (show p < 3 by omega)).frame (X := [])) (fun w1 hq => ?_)
          obtain ⟨w5, hw5, rfl⟩ := hq
          refine g_iinc3 ki_1 dX2_readInto_71 rfl rfl (g_goto (tgt := 20) dX2_readInto_74 (by decide) (?s20_5))
          rw [nI_1]
          rw [hr] at hs
          exact ih (p + 1) (r.1, r.2.1, r.2.2.1, updN r.2.2.2 p r.2.2.1.length) w5 (by omega) hs hw5
        refine g_iload3 dX2_readInto_20 (g_iconst ki_3 dX2_readInto_21 (g_icmp_ge (tgt := 77) dX2_readInto_22 (by decide) (fun h22 => ?s77_6) (fun h22 => g_iload2 dX2_readInto_25 (g_if_eq (tgt := 77) dX2_readInto_26 (by decide) (fun h26 => ?s77_6') (fun h26 => g_aload0 dX2_readInto_29 (g_bipush kb_6 dX2_readInto_30 (g_iload3 dX2_readInto_32 (g_iadd dX2_readInto_33 (?c34_6)))))))))
        case s77_6 => omega
        case s77_6' => exact absurd hst (hz.mp h26)
        case c34_6 =>
          have e6p : (6 : Int32) + nI p = nI (6 + p) := by rw [← nI_add]; rfl
          rw [e6p]
          refine g_V1i dX2_readInto_34 mv_X2_46 0 rfl rfl rfl (Nat.le_of_ble_eq_true rfl) (Nat.le_of_ble_eq_true rfl) ((c_pass hE hw' (q := 6 + p) (by omega)).frame (X := [])) (fun r1 w1 hq => ?_)
          obtain ⟨w5, ⟨rfl, hw5⟩, rfl⟩ := hq
          have hz1 := g_biz (p := (s.2.1.1 = 6 + p))
          by_cases hk6 : s.2.1.1 = 6 + p
          · rw [if_pos hk6] at hw5
            have hw5' := hw5
            obtain ⟨tp, nu, code, ends, stk, hh, rfl, g1, g2⟩ := hw5.lit
            refine g_if_eq (tgt := 61) dX2_readInto_37 (by decide) (fun h37 => ?s61_7) (fun h37 => g_aload0 dX2_readInto_40 (g_iconst ki_0 dX2_readInto_41 (?c42_7)))
            case s61_7 => exact absurd hk6 (hz1.mp h37)
            case c42_7 =>
              have hrd := c_read (d := d + 7) (a := a) (k := k) (T := T) (e := s.2.2.2) hE 42 0 (by omega) 0 _ _ _ (by omega) (by decide) hw5'
              refine g_V1i dX2_readInto_42 mv_X2_50 0 rfl rfl rfl (Nat.le_of_ble_eq_true rfl) (Nat.le_of_ble_eq_true rfl) (hrd.frame (X := [])) (fun r1 w1 hq => ?_)
              obtain ⟨w6, ⟨rfl, hw6⟩, rfl⟩ := hq
              have hpt : rdPart T p s = (decide ((prs T 42 0 0 (lexP T s.2.1.2.2.1)).1 = true ∧ (prs T 42 0 0 (lexP T s.2.1.2.2.1)).2.1.1 = 14), (if (prs T 42 0 0 (lexP T s.2.1.2.2.1)).1 = true ∧ (prs T 42 0 0 (lexP T s.2.1.2.2.1)).2.1.1 = 14 then lexP T (prs T 42 0 0 (lexP T s.2.1.2.2.1)).2.1.2.2.1 else (prs T 42 0 0 (lexP T s.2.1.2.2.1)).2.1), addAll s.2.2.1 (prs T 42 0 0 (lexP T s.2.1.2.2.1)).2.2, updN s.2.2.2 p (addAll s.2.2.1 (prs T 42 0 0 (lexP T s.2.1.2.2.1)).2.2).length) := by
                unfold rdPart
                rw [if_pos hk6]
                by_cases q : (prs T 42 0 0 (lexP T s.2.1.2.2.1)).1 = true ∧ (prs T 42 0 0 (lexP T s.2.1.2.2.1)).2.1.1 = 14
                · rw [if_pos q, if_pos q, decide_eq_true q]
                · rw [if_neg q, if_neg q, decide_eq_false q]
              generalize hr1 : prs T 42 0 0 (lexP T s.2.1.2.2.1) = r1 at *
              have hw6' := hw6
              obtain ⟨tp, nu, code, ends, stk, hh, rfl, g1, g2⟩ := hw6.lit
              have hz2 := g_biz (p := (r1.1 = true))
              refine g_if_eq (tgt := 61) dX2_readInto_45 (by decide) (fun h45 => g_iconst ki_0 dX2_readInto_61 (?s62_8)) (fun h45 => g_aload0 dX2_readInto_48 (g_bipush kb_14 dX2_readInto_49 (?c51_8)))
              case s62_8 =>
                have hn : ¬ (r1.1 = true ∧ r1.2.1.1 = 14) := fun q => hz2.mp h45 q.1
                rw [if_neg hn, decide_eq_false hn] at hpt
                exact hpart (false, r1.2.1, addAll s.2.2.1 r1.2.2, s.2.2.2) _ hpt hw6'
              case c51_8 =>
                have hrt : r1.1 = true := by
                  by_cases q : r1.1 = true
                  · exact q
                  · exact absurd (hz2.mpr q) h45
                refine g_V1i dX2_readInto_51 mv_X2_46 0 rfl rfl rfl (Nat.le_of_ble_eq_true rfl) (Nat.le_of_ble_eq_true rfl) ((c_pass hE hw6' (q := 14) (by omega)).frame (X := [])) (fun r1 w1 hq => ?_)
                obtain ⟨w7, ⟨rfl, hw7⟩, rfl⟩ := hq
                have hz3 := g_biz (p := (r1.2.1.1 = 14))
                by_cases h14 : r1.2.1.1 = 14
                · rw [if_pos h14] at hw7
                  rw [if_pos ⟨hrt, h14⟩, decide_eq_true (And.intro hrt h14)] at hpt
                  refine g_if_eq (tgt := 61) dX2_readInto_54 (by decide) (fun h54 => ?s61_9) (fun h54 => g_iconst ki_1 dX2_readInto_57 (g_goto (tgt := 62) dX2_readInto_58 (by decide) (?s62_9)))
                  case s61_9 => exact absurd h14 (hz3.mp h54)
                  case s62_9 => exact hpart (true, _, addAll s.2.2.1 r1.2.2, s.2.2.2) _ hpt hw7
                · rw [if_neg h14] at hw7
                  have hn : ¬ (r1.1 = true ∧ r1.2.1.1 = 14) := fun q => h14 q.2
                  rw [if_neg hn, decide_eq_false hn] at hpt
                  refine g_if_eq (tgt := 61) dX2_readInto_54 (by decide) (fun h54 => g_iconst ki_0 dX2_readInto_61 (?s62_10)) (fun h54 => ?s57_10)
                  case s57_10 => exact absurd (hz3.mpr h14) h54
                  case s62_10 => exact hpart (false, r1.2.1, addAll s.2.2.1 r1.2.2, s.2.2.2) _ hpt hw7
          · rw [if_neg hk6] at hw5
            have hpt : rdPart T p s = (false, s.2.1, s.2.2.1, updN s.2.2.2 p s.2.2.1.length) := by
              unfold rdPart; rw [if_neg hk6]
            refine g_if_eq (tgt := 61) dX2_readInto_37 (by decide) (fun h37 => g_iconst ki_0 dX2_readInto_61 (?s62_11)) (fun h37 => ?s40_11)
            case s40_11 => exact absurd (hz1.mpr hk6) h37
            case s62_11 => exact hpart (false, s.2.1, s.2.2.1, s.2.2.2) _ hpt hw5
      · rw [if_neg hst] at hs
        subst hs
        refine g_iload3 dX2_readInto_20 (g_iconst ki_3 dX2_readInto_21 (g_icmp_ge (tgt := 77) dX2_readInto_22 (by decide) (fun h22 => ?s77_12) (fun h22 => g_iload2 dX2_readInto_25 (g_if_eq (tgt := 77) dX2_readInto_26 (by decide) (fun h26 => ?s77_12') (fun h26 => ?s29_12)))))
        case s77_12 => exact fin _ _ hw
        case s77_12' => exact fin _ _ hw
        case s29_12 => exact absurd (hz.mpr hst) h26
  refine g_aload0 dX2_readInto_0 (g_get fl_X2_18 0 rfl rfl dX2_readInto_1 (?c4_13))
  refine g_sub (ws' := rdrW E a k tp (nI T.length) nx tk at_ nu ++ (txtW E a (k + 2) code ends stk (nI C0.length) hh ++ txtW E b k2 code3 ends3 stk3 (nI C1.length) hh3)) [0, 1, 2, 3, 4, 5, 6, 7, 8, 9] (by decide) rfl ?_
  refine g_V0v dX2_readInto_4 mv_X2_40 2 rfl rfl rfl (Nat.le_of_ble_eq_true rfl) (Nat.le_of_ble_eq_true rfl) ((c_clear hN h2').frame (X := rdrW E a k tp (nI T.length) nx tk at_ nu) (Y := txtW E b k2 code3 ends3 stk3 (nI C1.length) hh3)) (fun w1 hq => ?_)
  obtain ⟨w5, hw5, rfl⟩ := hq
  have hw5' := hw5
  obtain ⟨-, code5, ends5, stk5, hh5, rfl, -⟩ := hw5
  refine g_aload0 dX2_readInto_7 (g_iconst ki_0 dX2_readInto_8 (g_put fl_X2_26 fp_2_3 0 rfl rfl rfl (Nat.le_of_ble_eq_true rfl) dX2_readInto_9 (g_aload0 dX2_readInto_12 (?c13_14))))
  dsimp only [List.set, List.cons_append, List.nil_append]
  have hs0 := c_step0 (d := d + 52) (a := a) (k := k) hE hT (Nat.zero_le T.length) tk at_ nu
  refine g_V0v dX2_readInto_13 mv_X2_43 0 rfl rfl rfl (Nat.le_of_ble_eq_true rfl) (Nat.le_of_ble_eq_true rfl) (hs0.frame (X := []) (Y := txtW E a (k + 2) code5 ends5 stk5 (nI ([] : List Int32).length) hh5 ++ txtW E b k2 code3 ends3 stk3 (nI C1.length) hh3)) (fun w1 hq => ?_)
  obtain ⟨w6, hw6, rfl⟩ := hq
  refine g_iconst ki_1 dX2_readInto_16 (g_istore2 dX2_readInto_17 rfl rfl (g_iconst ki_0 dX2_readInto_18 (g_istore3 dX2_readInto_19 rfl rfl (?s20_15))))
  have := loop 3 0 (true, lexP T 0, [], e0) (w6 ++ txtW E a (k + 2) code5 ends5 stk5 (nI ([] : List Int32).length) hh5) rfl hF.symm ⟨_, _, hw6, hw5', rfl⟩
  rw [List.append_assoc] at this
  exact this
end S37
