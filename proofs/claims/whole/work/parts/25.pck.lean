def pullsI (kd pc nb q : Nat) : Int := if kd = 1 then pc + nb else if kd = 2 then ((pc / 2 : Nat) : Int) else if kd = 3 then pc + nb + q else if kd = 4 then ((pc / 2 : Nat) : Int) - 2 else if kd = 5 then 2 * (pc + nb) - q else pc
def acN (nb : Nat) : Nat := if 4 < nb then 1 else 0
theorem acN_1 {nb : Nat} (h : 4 < nb) : acN nb = 1 := if_pos h
theorem acN_0 {nb : Nat} (h : ¬ 4 < nb) : acN nb = 0 := if_neg h
def rightP (kd nb q s : Nat) : Prop := if kd = 1 then s ≤ q + acN nb else if kd = 3 then False else if kd = 4 then s ≤ q ∨ q = 0 else if kd = 5 then ((q % 2 = 0 ∧ ¬ s ≤ q + acN nb) ∨ (q % 2 = 1 ∧ s ≤ q + acN nb)) else s ≤ q
theorem rightP_dec (kd nb q s : Nat) : rightP kd nb q s ∨ ¬ rightP kd nb q s := Classical.em _
noncomputable def rightB (kd nb q s : Nat) : Bool := @decide (rightP kd nb q s) (Classical.propDecidable _)
theorem rightB_t {kd nb q s : Nat} : rightB kd nb q s = true ↔ rightP kd nb q s := by
  unfold rightB; exact @decide_eq_true_iff _ (Classical.propDecidable _)
theorem div2_nI {x : Nat} (h : x < 1000) : (nI x / 2).toInt = ((x / 2 : Nat) : Int) := by
  rw [show (2 : Int32) = nI 2 from rfl, pk_div (by omega) (by omega) (by omega), t_nI (by omega)]
section S25
variable {E : GE} {d : Nat} {a : Nat → Nat} {k : Nat} {D : Dg} {r : Nat} {w : va_W}
set_option maxRecDepth 20000 in
set_option maxHeartbeats 1000000 in
theorem c_pullsAs (hN : g_N E) (hw : Pck E a k D r w) {kd x q pa nu : Nat} (hk : kd ≤ 5) (hp : D.2.1[x]? = some pa) (hu : D.2.2.1[x]? = some nu) (hq6 : q ≤ 6) : g_Ci E mX1_pullsAs (d + 1) [.ref (a k), .int (nI kd), .int (nI x), .int (nI q)] w (fun v w' => v.toInt = pullsI kd pa nu q ∧ w' = w) := by
  obtain ⟨hD, kds, pc, nb, hs, od, rfl, h1, h2, h3, h4, h5⟩ := hw
  obtain ⟨hn, l1, l2, l3, l4, b1, b2, b3, b4, b5, hnd⟩ := hD
  refine g_enterI hN.1 (by decide) [some (.ref (a k)), some (.int (nI kd)), some (.int (nI x)), some (.int (nI q)), none] rfl (Nat.le_of_ble_eq_true rfl) (fun A Q hQ => ?_)
  have tc2 := tc_2
  have hx := (List.getElem?_eq_some_iff.mp hp).1
  have ex := t_nI (n := x) (by omega)
  have ek := t_nI (n := kd) (by omega)
  have eq := t_nI (n := q) (by omega)
  have r1 := b2 pa (List.mem_of_getElem? hp)
  have r2 := b3 nu (List.mem_of_getElem? hu)
  have ep := t_nI (n := pa) (by omega)
  have eu := t_nI (n := nu) (by omega)
  have e2 := div2_nI (x := pa) (by omega)
  have es : (nI pa + nI nu).toInt = pa + nu := by rw [t_add (by omega) (by omega), ep, eu]
  have p1 := h2.at hp
  have p2 := h3.at hu
  refine g_aload0 dX1_pullsAs_0 (g_get fl_X1_15 0 rfl rfl dX1_pullsAs_1 (g_iload2 dX1_pullsAs_4 (g_iaload 2 rfl dX1_pullsAs_5 ?b5 (g_aload0 dX1_pullsAs_6 (g_get fl_X1_18 0 rfl rfl dX1_pullsAs_7 (g_iload2 dX1_pullsAs_10 (g_iaload 3 rfl dX1_pullsAs_11 ?b11 (g_iadd dX1_pullsAs_12 (g_istore4 dX1_pullsAs_13 rfl rfl (g_iload1 dX1_pullsAs_15 (g_case (c := 1) (fun h16 => g_tsw_in (tgt := 52) 0 dX1_pullsAs_16 h16 (by decide) rfl (by decide) (g_iload4 dX1_pullsAs_52 (g_iret rfl dX1_pullsAs_54 (Nat.le_of_ble_eq_true rfl) (Nat.le_of_ble_eq_true rfl) ?q54))) (fun n16_0 => g_case (c := 2) (fun h16 => g_tsw_in (tgt := 55) 1 dX1_pullsAs_16 h16 (by decide) rfl (by decide) (g_aload0 dX1_pullsAs_55 (g_get fl_X1_15 0 rfl rfl dX1_pullsAs_56 (g_iload2 dX1_pullsAs_59 (g_iaload 2 rfl dX1_pullsAs_60 ?b60 (g_iconst ki_2 dX1_pullsAs_61 (g_idiv dX1_pullsAs_62 ?z62 (g_iret rfl dX1_pullsAs_63 (Nat.le_of_ble_eq_true rfl) (Nat.le_of_ble_eq_true rfl) ?q63)))))))) (fun n16_1 => g_case (c := 3) (fun h16 => g_tsw_in (tgt := 64) 2 dX1_pullsAs_16 h16 (by decide) rfl (by decide) (g_iload4 dX1_pullsAs_64 (g_iload3 dX1_pullsAs_66 (g_iadd dX1_pullsAs_67 (g_iret rfl dX1_pullsAs_68 (Nat.le_of_ble_eq_true rfl) (Nat.le_of_ble_eq_true rfl) ?q68))))) (fun n16_2 => g_case (c := 4) (fun h16 => g_tsw_in (tgt := 69) 3 dX1_pullsAs_16 h16 (by decide) rfl (by decide) (g_aload0 dX1_pullsAs_69 (g_get fl_X1_15 0 rfl rfl dX1_pullsAs_70 (g_iload2 dX1_pullsAs_73 (g_iaload 2 rfl dX1_pullsAs_74 ?b74 (g_iconst ki_2 dX1_pullsAs_75 (g_idiv dX1_pullsAs_76 ?z76 (g_iconst ki_2 dX1_pullsAs_77 (g_isub dX1_pullsAs_78 (g_iret rfl dX1_pullsAs_79 (Nat.le_of_ble_eq_true rfl) (Nat.le_of_ble_eq_true rfl) ?q79)))))))))) (fun n16_3 => g_case (c := 5) (fun h16 => g_tsw_in (tgt := 80) 4 dX1_pullsAs_16 h16 (by decide) rfl (by decide) (g_iconst ki_2 dX1_pullsAs_80 (g_iload4 dX1_pullsAs_81 (g_imul dX1_pullsAs_83 (g_iload3 dX1_pullsAs_84 (g_isub dX1_pullsAs_85 (g_iret rfl dX1_pullsAs_86 (Nat.le_of_ble_eq_true rfl) (Nat.le_of_ble_eq_true rfl) ?q86))))))) (fun n16_4 => g_tsw_out (tgt := 87) dX1_pullsAs_16 (by omega) (by decide) (g_aload0 dX1_pullsAs_87 (g_get fl_X1_15 0 rfl rfl dX1_pullsAs_88 (g_iload2 dX1_pullsAs_91 (g_iaload 2 rfl dX1_pullsAs_92 ?b92 (g_iret rfl dX1_pullsAs_93 (Nat.le_of_ble_eq_true rfl) (Nat.le_of_ble_eq_true rfl) ?q93)))))))))))))))))))))
  all_goals try (rw [ex, Int.toNat_natCast, p1])
  all_goals try (rw [p2])
  all_goals try omega
  case z62 => decide
  case z76 => decide
  all_goals refine hQ _ _ ⟨?_, rfl⟩
  all_goals unfold pullsI
  all_goals repeat (first | rw [if_pos (by omega)] | rw [if_neg (by omega)])
  case q54 => exact es
  case q63 => exact e2
  case q68 => rw [t_add (by omega) (by omega)]; omega
  case q79 => rw [t_sub (by omega) (by omega)]; omega
  case q86 =>
    have e3 : (2 * (nI pa + nI nu)).toInt = 2 * (pa + nu) := by rw [t_mul (by rw [es, tc2]; omega) (by rw [es, tc2]; omega), es, tc2]
    rw [t_sub (by omega) (by omega)]; omega
  case q93 => exact ep
set_option maxRecDepth 20000 in
set_option maxHeartbeats 1000000 in
theorem c_pulls (hN : g_N E) (hw : Pck E a k D r w) {kd x q pa nu : Nat} (hk : D.1[x]? = some kd) (hp : D.2.1[x]? = some pa) (hu : D.2.2.1[x]? = some nu) (hq6 : q ≤ 6) : g_Ci E mX1_pulls (d + 2) [.ref (a k), .int (nI x), .int (nI q)] w (fun v w' => v.toInt = max 0 (pullsI kd pa nu q) ∧ w' = w) := by
  have hw' := hw
  obtain ⟨hD, kds, pc, nb, hs, od, rfl, h1, h2, h3, h4, h5⟩ := hw
  obtain ⟨hn, l1, l2, l3, l4, b1, b2, b3, b4, b5, hnd⟩ := hD
  refine g_enterI hN.1 (by decide) [some (.ref (a k)), some (.int (nI x)), some (.int (nI q))] rfl (Nat.le_of_ble_eq_true rfl) (fun A Q hQ => ?_)
  have tc0 := tc_0
  have hx := (List.getElem?_eq_some_iff.mp hp).1
  have ex := t_nI (n := x) (by omega)
  refine g_iconst ki_0 dX1_pulls_0 (g_aload0 dX1_pulls_1 (g_aload0 dX1_pulls_2 (g_get fl_X1_9 0 rfl rfl dX1_pulls_3 (g_iload1 dX1_pulls_6 (g_iaload 1 rfl dX1_pulls_7 ?b7 (g_iload1 dX1_pulls_8 (g_iload2 dX1_pulls_9 (?c10))))))))
  case b7 => omega
  rw [ex, Int.toNat_natCast, h1.at hk]
  refine g_V3i dX1_pulls_10 mv_X1_53 0 rfl rfl rfl (Nat.le_of_ble_eq_true rfl) (Nat.le_of_ble_eq_true rfl) (c_pullsAs hN hw' (b1 kd (List.mem_of_getElem? hk)) hp hu hq6) (fun r1 w1 hq => ?_)
  obtain ⟨hv, rfl⟩ := hq
  refine g_mmax wm_X1_57 dX1_pulls_13 (Nat.le_of_ble_eq_true rfl) (Nat.le_of_ble_eq_true rfl) rfl (g_iret rfl dX1_pulls_16 (Nat.le_of_ble_eq_true rfl) (Nat.le_of_ble_eq_true rfl) ?q16_2)
  refine hQ _ _ ⟨?_, rfl⟩
  rw [t_max, hv, tc0]
set_option maxRecDepth 20000 in
set_option maxHeartbeats 1000000 in
theorem c_passesRight (hN : g_N E) (hw : Pck E a k D r w) {kd x q s nu : Nat} (hk : D.1[x]? = some kd) (hu : D.2.2.1[x]? = some nu) (hq6 : q ≤ 6) (hs6 : s ≤ 6) : g_Ci E mX1_passesRight (d + 1) [.ref (a k), .int (nI x), .int (nI q), .int (nI s)] w (fun v w' => v = g_bi (rightB kd nu q s = true) ∧ w' = w) := by
  obtain ⟨hD, kds, pc, nb, hs, od, rfl, h1, h2, h3, h4, h5⟩ := hw
  obtain ⟨hn, l1, l2, l3, l4, b1, b2, b3, b4, b5, hnd⟩ := hD
  refine g_enterI hN.1 (by decide) [some (.ref (a k)), some (.int (nI x)), some (.int (nI q)), some (.int (nI s)), none] rfl (Nat.le_of_ble_eq_true rfl) (fun A Q hQ => ?_)
  have tc0 := tc_0; have tc1 := tc_1; have tc2 := tc_2; have tc4 := tc_4
  have hx := (List.getElem?_eq_some_iff.mp hk).1
  have ex := t_nI (n := x) (by omega)
  have eq := t_nI (n := q) (by omega)
  have es := t_nI (n := s) (by omega)
  have r1 := b1 kd (List.mem_of_getElem? hk)
  have r2 := b3 nu (List.mem_of_getElem? hu)
  have ek := t_nI (n := kd) (by omega)
  have eu := t_nI (n := nu) (by omega)
  have p1 := h1.at hk
  have p2 := h3.at hu
  have e2 : (nI q - nI q / 2 * 2).toInt = ((q % 2 : Nat) : Int) := by
    rw [show (2 : Int32) = nI 2 from rfl, pk_rem (by omega) (by omega) (by omega), t_nI (by omega)]
  have rest : ∀ v, v = g_bi (s ≤ q + acN nu) → G E mX1_passesRight (d + 1) 0 0 A Q 0 0 26 [some (.ref (a k)), some (.int (nI x)), some (.int (nI q)), some (.int (nI s)), none] [.int v] (packW E a k kds pc nb hs od (nI D.1.length) (nI r)) := by
    intro v hv
    have hz := g_biz (p := s ≤ q + acN nu)
    subst hv
    refine g_istore4 dX1_passesRight_26 rfl rfl (g_aload0 dX1_passesRight_28 (g_get fl_X1_9 0 rfl rfl dX1_passesRight_29 (g_iload1 dX1_passesRight_32 (g_iaload 1 rfl dX1_passesRight_33 ?b33 (g_case (c := 1) (fun h34 => g_tsw_in (tgt := 68) 0 dX1_passesRight_34 h34 (by decide) rfl (by decide) (g_iload4 dX1_passesRight_68 (g_zret rfl (by first | exact g_bi01 _ | exact Or.inl rfl | exact Or.inr rfl) dX1_passesRight_70 (Nat.le_of_ble_eq_true rfl) (Nat.le_of_ble_eq_true rfl) ?q70))) (fun n34_0 => g_case (c := 2) (fun h34 => g_tsw_in (tgt := 110) 1 dX1_passesRight_34 h34 (by decide) rfl (by decide) (g_iload2 dX1_passesRight_110 (g_iload3 dX1_passesRight_111 (g_icmp_lt (tgt := 119) dX1_passesRight_112 (by decide) (fun h112 => g_iconst ki_0 dX1_passesRight_119 (g_zret rfl (by first | exact g_bi01 _ | exact Or.inl rfl | exact Or.inr rfl) dX1_passesRight_120 (Nat.le_of_ble_eq_true rfl) (Nat.le_of_ble_eq_true rfl) ?q120)) (fun h112 => g_iconst ki_1 dX1_passesRight_115 (g_goto (tgt := 120) dX1_passesRight_116 (by decide) (g_zret rfl (by first | exact g_bi01 _ | exact Or.inl rfl | exact Or.inr rfl) dX1_passesRight_120 (Nat.le_of_ble_eq_true rfl) (Nat.le_of_ble_eq_true rfl) ?q120'))))))) (fun n34_1 => g_case (c := 3) (fun h34 => g_tsw_in (tgt := 71) 2 dX1_passesRight_34 h34 (by decide) rfl (by decide) (g_iconst ki_0 dX1_passesRight_71 (g_zret rfl (by first | exact g_bi01 _ | exact Or.inl rfl | exact Or.inr rfl) dX1_passesRight_72 (Nat.le_of_ble_eq_true rfl) (Nat.le_of_ble_eq_true rfl) ?q72))) (fun n34_2 => g_case (c := 4) (fun h34 => g_tsw_in (tgt := 73) 3 dX1_passesRight_34 h34 (by decide) rfl (by decide) (g_iload2 dX1_passesRight_73 (g_iload3 dX1_passesRight_74 (g_icmp_ge (tgt := 82) dX1_passesRight_75 (by decide) (fun h75 => g_iconst ki_1 dX1_passesRight_82 (g_goto (tgt := 87) dX1_passesRight_83 (by decide) (g_zret rfl (by first | exact g_bi01 _ | exact Or.inl rfl | exact Or.inr rfl) dX1_passesRight_87 (Nat.le_of_ble_eq_true rfl) (Nat.le_of_ble_eq_true rfl) ?q87))) (fun h75 => g_iload2 dX1_passesRight_78 (g_if_ne (tgt := 86) dX1_passesRight_79 (by decide) (fun h79 => g_iconst ki_0 dX1_passesRight_86 (g_zret rfl (by first | exact g_bi01 _ | exact Or.inl rfl | exact Or.inr rfl) dX1_passesRight_87 (Nat.le_of_ble_eq_true rfl) (Nat.le_of_ble_eq_true rfl) ?q87')) (fun h79 => g_iconst ki_1 dX1_passesRight_82 (g_goto (tgt := 87) dX1_passesRight_83 (by decide) (g_zret rfl (by first | exact g_bi01 _ | exact Or.inl rfl | exact Or.inr rfl) dX1_passesRight_87 (Nat.le_of_ble_eq_true rfl) (Nat.le_of_ble_eq_true rfl) ?q87''))))))))) (fun n34_3 => g_case (c := 5) (fun h34 => g_tsw_in (tgt := 88) 4 dX1_passesRight_34 h34 (by decide) rfl (by decide) (g_iload2 dX1_passesRight_88 (g_iconst ki_2 dX1_passesRight_89 (g_irem dX1_passesRight_90 ?z90 (g_if_ne (tgt := 107) dX1_passesRight_91 (by decide) (fun h91 => g_iload4 dX1_passesRight_107 (g_zret rfl (by first | exact g_bi01 _ | exact Or.inl rfl | exact Or.inr rfl) dX1_passesRight_109 (Nat.le_of_ble_eq_true rfl) (Nat.le_of_ble_eq_true rfl) ?q109)) (fun h91 => g_iload4 dX1_passesRight_94 (g_if_ne (tgt := 103) dX1_passesRight_96 (by decide) (fun h96 => g_iconst ki_0 dX1_passesRight_103 (g_goto (tgt := 109) dX1_passesRight_104 (by decide) (g_zret rfl (by first | exact g_bi01 _ | exact Or.inl rfl | exact Or.inr rfl) dX1_passesRight_109 (Nat.le_of_ble_eq_true rfl) (Nat.le_of_ble_eq_true rfl) ?q109'))) (fun h96 => g_iconst ki_1 dX1_passesRight_99 (g_goto (tgt := 109) dX1_passesRight_100 (by decide) (g_zret rfl (by first | exact g_bi01 _ | exact Or.inl rfl | exact Or.inr rfl) dX1_passesRight_109 (Nat.le_of_ble_eq_true rfl) (Nat.le_of_ble_eq_true rfl) ?q109'')))))))))) (fun n34_4 => g_tsw_out (tgt := 110) dX1_passesRight_34 (by omega) (by decide) (g_iload2 dX1_passesRight_110 (g_iload3 dX1_passesRight_111 (g_icmp_lt (tgt := 119) dX1_passesRight_112 (by decide) (fun h112 => g_iconst ki_0 dX1_passesRight_119 (g_zret rfl (by first | exact g_bi01 _ | exact Or.inl rfl | exact Or.inr rfl) dX1_passesRight_120 (Nat.le_of_ble_eq_true rfl) (Nat.le_of_ble_eq_true rfl) ?q120'')) (fun h112 => g_iconst ki_1 dX1_passesRight_115 (g_goto (tgt := 120) dX1_passesRight_116 (by decide) (g_zret rfl (by first | exact g_bi01 _ | exact Or.inl rfl | exact Or.inr rfl) dX1_passesRight_120 (Nat.le_of_ble_eq_true rfl) (Nat.le_of_ble_eq_true rfl) ?q120'''))))))))))))))))
    all_goals try rw [ex, Int.toNat_natCast, p1] at h34
    all_goals try rw [ex, Int.toNat_natCast, p1] at n34_0
    all_goals try rw [ex, Int.toNat_natCast, p1] at n34_1
    all_goals try rw [ex, Int.toNat_natCast, p1] at n34_2
    all_goals try rw [ex, Int.toNat_natCast, p1] at n34_3
    all_goals try rw [ex, Int.toNat_natCast, p1] at n34_4
    case b33 => omega
    case z90 => decide
    all_goals refine hQ _ _ ⟨?_, rfl⟩
    all_goals (by_cases hr : rightP kd nu q s <;> first | (rw [g_bi1 (rightB_t.mpr hr)]) | (rw [g_bi0 (fun q => hr (rightB_t.mp q))]))
    all_goals unfold rightP at hr
    all_goals repeat (first | rw [if_pos (show kd = _ by omega)] at hr | rw [if_neg (show ¬ kd = _ by omega)] at hr)
    all_goals first | rfl | (rw [g_bi1 (by omega)]; done) | (rw [g_bi0 (by omega)]; done) | (exfalso; omega)
  refine g_iload2 dX1_passesRight_0 (g_aload0 dX1_passesRight_1 (g_get fl_X1_18 0 rfl rfl dX1_passesRight_2 (g_iload1 dX1_passesRight_5 (g_iaload 3 rfl dX1_passesRight_6 ?b6_2 (g_iconst ki_4 dX1_passesRight_7 (g_icmp_le (tgt := 15) dX1_passesRight_8 (by decide) (fun h8 => g_iconst ki_0 dX1_passesRight_15 (g_iadd dX1_passesRight_16 (g_iload3 dX1_passesRight_17 (g_icmp_lt (tgt := 25) dX1_passesRight_18 (by decide) (fun h18 => g_iconst ki_0 dX1_passesRight_25 (?s26_2)) (fun h18 => g_iconst ki_1 dX1_passesRight_21 (g_goto (tgt := 26) dX1_passesRight_22 (by decide) (?s26_2'))))))) (fun h8 => g_iconst ki_1 dX1_passesRight_11 (g_goto (tgt := 16) dX1_passesRight_12 (by decide) (g_iadd dX1_passesRight_16 (g_iload3 dX1_passesRight_17 (g_icmp_lt (tgt := 25) dX1_passesRight_18 (by decide) (fun h18 => g_iconst ki_0 dX1_passesRight_25 (?s26_2'')) (fun h18 => g_iconst ki_1 dX1_passesRight_21 (g_goto (tgt := 26) dX1_passesRight_22 (by decide) (?s26_2'''))))))))))))))
  case b6_2 => omega
  all_goals rw [ex, Int.toNat_natCast, p2] at h8
  all_goals have a1 : (nI q + 1).toInt = q + 1 := by rw [t_add (by omega) (by omega)]; omega
  all_goals have a0 : (nI q + 0).toInt = q := by rw [t_add (by omega) (by omega)]; omega
  all_goals refine rest _ ?_
  all_goals by_cases h4n : 4 < nu
  all_goals first | (have b0 := acN_1 h4n) | (have b0 := acN_0 h4n)
  all_goals first | (exfalso; omega) | (rw [g_bi1 (by omega)]; done) | (rw [g_bi0 (by omega)]; done)
end S25
