section S99d0
variable {E : GE} {M : GM} {d mc ms : Nat} {A : Nat → Prop} {Q : Option Value → va_W → Prop} {k n pc : Nat} {ls : List (Option Value)} {st : List Value} {ws : va_W} {b : Nat → Nat} {v : Nat → Int32} {t : Int64} {f : Nat → Nat → Int32}
theorem g_bastore {a m : Nat} {f : Nat → Int32} {i x : Int32} (j : Nat) (he : ws[j]? = some (a, .inl (E.2.2.1 1, m, .inl f))) (hd : decode M.2.1 pc = .ok (.bastore, 1)) (hi : 0 ≤ i.toInt ∧ i.toInt < m) (hx : vp_nar .boolean x = x) (kk : G E M d mc ms A Q k n (pc + 1) ls st (ws.set j (a, .inl (E.2.2.1 1, m, .inl (upd f i.toInt.toNat x))))) : G E M d mc ms A Q k n pc ls (.int x :: .int i :: .ref a :: st) ws := by
  intro p e s m args below meth c H locs ls0 hc hP hD hS hl
  refine va_zast hc.1 hc.2.1 hc.2.2.2.2.2.2.2.1 hP hD hS j 1 he rfl (g_vin hi) hd (fun H1 locs1 hP1 hD1 hS1 => ?_)
  rw [hx] at hP1 hD1
  exact kk p e s m args below meth c H1 locs1 ls0 hc hP1 hD1 hS1 hl
theorem g_mbs {i x : Int32} (hd : decode M.2.1 pc = .ok (.bastore, 1)) (hi : 0 ≤ i.toInt ∧ i.toInt < (4 : Nat)) (hx : vp_nar .boolean x = x) (kk : G E M d mc ms A Q k n (pc + 1) ls st (mW E b v t (updA f 52 (upd (f 52) i.toInt.toNat x)))) : G E M d mc ms A Q k n pc ls (.int x :: .int i :: .ref (b 23) :: st) (mW E b v t f) := by
  refine g_bastore 23 ma_52 hd hi hx ?_
  rw [mas_52]; exact kk
end S99d0
section S99d
variable {E : GE} {d : Nat} {b : Nat → Nat} {v : Nat → Int32} {t : Int64} {f : Nat → Nat → Int32} {i : Nat} {s : Int32 × List Int32}
set_option maxRecDepth 20000 in
set_option maxHeartbeats 2000000 in
theorem c_X8_sheet (hN : g_N E) (hS : MSh f i s) (x so m : Int32) (hx : shN x i) : g_Ci E mX8_sheet (d + 3) [.ref (b 0), .int x, .int so, .int m] (mW E b v t f) (fun z w => z = (sSheet x so m s).1 ∧ ∃ f', w = mW E b v t f' ∧ agF [52, 53, 54, 55] f f' ∧ MSh f' i (sSheet x so m s).2 ∧ ∀ i' s', i' ≠ i → MSh f i' s' → MSh f' i' s') := by
  have hS0 := hS
  obtain ⟨hi4, hs40, hso, hm1, hm2⟩ := hS
  refine g_enterI hN.1 (by decide) [some (.ref (b 0)), some (.int x), some (.int so), some (.int m), none] rfl (Nat.le_of_ble_eq_true rfl) (fun A Q hQ => ?_)
  have tcm14 := tc_m14; have tcm2 := tc_m2; have tc0 := tc_0; have tc1 := tc_1; have tc40 := tc_40
  have tc40 := tc_40
  unfold sSheet at hQ
  have bad : ∀ z : Int32, (sSheet x so m s) = (z, s) → Q (some (.int z)) (mW E b v t f) := by
    intro z hz
    unfold sSheet at hz
    rw [hz] at hQ
    exact hQ _ _ ⟨rfl, f, rfl, agF.rf, hS0, fun _ _ _ h => h⟩
  have main : (0 ≤ x.toInt ∧ x.toInt ≤ 3) → (-1 ≤ so.toInt ∧ so.toInt ≤ 2) → (so.toInt = -1 ∨ (0 ≤ m.toInt ∧ m.toInt ≤ 40)) → G E mX8_sheet (d + 3) 0 0 A Q 0 0 45 [some (.ref (b 0)), some (.int x), some (.int so), some (.int m), none] [] (mW E b v t f) := by
    intro h1 h2 h3
    have hxi := hx h1
    have hxx : x = nI i := by rw [← hxi]; exact t_of h1.1
    have ei := t_nI (n := i) (by omega)
    rw [if_neg (fun q => q ⟨h1, h2⟩)] at hQ
    clear bad
    subst hxx
    have tail : ∀ z : Int32, z = g_bi (0 ≤ so.toInt) → ∀ (u j : Nat) (f2 : Nat → Nat → Int32), (0 ≤ so.toInt → (j : Int) + u = m.toInt) → agF [52, 53, 54, 55] f f2 → f2 52 = upd (f 52) i z → f2 53 = upd (f 53) i so → f2 54 = upd (f 54) i m → (∀ q : Nat, q < j → f2 55 (40 * i + q) = 0) → (∀ q : Nat, q < 40 * i ∨ 40 * i + 40 ≤ q → f2 55 q = f 55 q) → G E mX8_sheet (d + 3) 0 0 A Q 0 0 77 [some (.ref (b 0)), some (.int (nI i)), some (.int so), some (.int m), some (.int (nI j))] [] (mW E b v t f2) := by
      intro z hz u
      have oth : ∀ f2, f2 52 = upd (f 52) i z → f2 53 = upd (f 53) i so → f2 54 = upd (f 54) i m → (∀ q : Nat, q < 40 * i ∨ 40 * i + 40 ≤ q → f2 55 q = f 55 q) → ∀ i' s', i' ≠ i → MSh f i' s' → MSh f2 i' s' := by
        intro f2 k1 k2 k3 k4 i' s' hne hh
        obtain ⟨a1, a2, a3, a4, a5⟩ := hh
        refine ⟨a1, a2, a3, fun q => ?_, fun q => ?_⟩
        · rw [k1, upd_o hne]; exact a4 q
        · obtain ⟨c1, c2, c3, c4⟩ := a5 q
          refine ⟨by rw [k1, upd_o hne]; exact c1, by rw [k2, upd_o hne]; exact c2, by rw [k3, upd_o hne]; exact c3, fun j y hj => ?_⟩
          have hjl := (List.getElem?_eq_some_iff.mp hj).1
          rw [k4 _ (by omega)]
          exact c4 j y hj
      induction u with
      | zero =>
        intro j f2 hj h5 k1 k2 k3 k4 k5
        by_cases hso0 : so.toInt = -1
        · rw [if_pos hso0] at hQ
          have hzz : z = 0 := by rw [hz, g_bi0 (by omega)]
          have fin : Q (some (.int 1)) (mW E b v t f2) := by
            refine hQ _ _ ⟨rfl, f2, rfl, h5, ⟨hi4, by simp, by decide, fun _ => by rw [k1, upd_s, hzz], fun q => absurd (by decide) q⟩, oth f2 k1 k2 k3 k5⟩
          refine g_iload4 dX8_sheet_77 (g_iload3 dX8_sheet_79 (g_icmp_ge (tgt := 106) dX8_sheet_80 (by decide) (fun h80 => g_iconst ki_1 dX8_sheet_106 (g_iret rfl dX8_sheet_107 (Nat.le_of_ble_eq_true rfl) (Nat.le_of_ble_eq_true rfl) ?q107)) (fun h80 => g_iload2 dX8_sheet_83 (g_if_lt (tgt := 106) dX8_sheet_84 (by decide) (fun h84 => g_iconst ki_1 dX8_sheet_106 (g_iret rfl dX8_sheet_107 (Nat.le_of_ble_eq_true rfl) (Nat.le_of_ble_eq_true rfl) ?q107')) (fun h84 => ?s87)))))
          case s87 => omega
          case q107 => exact fin
          case q107' => exact fin
        · rw [if_neg hso0, if_neg (by omega), if_neg (by omega)] at hQ
          have hzz : z = 1 := by rw [hz, g_bi1 (by omega)]
          have hjm : (j : Int) = m.toInt := by have := hj (by omega); omega
          have ej := t_nI (n := j) (by omega)
          refine g_iload4 dX8_sheet_77 (g_iload3 dX8_sheet_79 (g_icmp_ge (tgt := 106) dX8_sheet_80 (by decide) (fun h80 => g_iconst ki_1 dX8_sheet_106 (g_iret rfl dX8_sheet_107 (Nat.le_of_ble_eq_true rfl) (Nat.le_of_ble_eq_true rfl) ?q107_2)) (fun h80 => g_iload2 dX8_sheet_83 (g_if_lt (tgt := 106) dX8_sheet_84 (by decide) (fun h84 => g_iconst ki_1 dX8_sheet_106 (g_iret rfl dX8_sheet_107 (Nat.le_of_ble_eq_true rfl) (Nat.le_of_ble_eq_true rfl) ?q107_2')) (fun h84 => ?s87_2)))))
          case s87_2 => omega
          case q107_2 =>
            refine hQ _ _ ⟨rfl, f2, rfl, h5, ⟨hi4, by dsimp only; rw [List.length_replicate]; omega, h2, fun q => absurd q hso0, fun _ => ⟨by rw [k1, upd_s, hzz], by rw [k2, upd_s], ?_, ?_⟩⟩, oth f2 k1 k2 k3 k5⟩
            · rw [k3, upd_s]
              dsimp only
              rw [List.length_replicate]
              exact t_of (by omega)
            · intro q y hq
              dsimp only at hq
              have hql := (List.getElem?_eq_some_iff.mp hq).1
              rw [List.length_replicate] at hql
              rw [List.getElem?_replicate, if_pos hql] at hq
              rw [k4 q (by omega)]
              exact Option.some.inj hq
          case q107_2' => omega
      | succ u ih =>
        intro j f2 hj h5 k1 k2 k3 k4 k5
        by_cases hso0 : so.toInt = -1
        · rw [if_pos hso0] at hQ
          have hzz : z = 0 := by rw [hz, g_bi0 (by omega)]
          have fin : Q (some (.int 1)) (mW E b v t f2) := by
            refine hQ _ _ ⟨rfl, f2, rfl, h5, ⟨hi4, by simp, by decide, fun _ => by rw [k1, upd_s, hzz], fun q => absurd (by decide) q⟩, oth f2 k1 k2 k3 k5⟩
          refine g_iload4 dX8_sheet_77 (g_iload3 dX8_sheet_79 (g_icmp_ge (tgt := 106) dX8_sheet_80 (by decide) (fun h80 => g_iconst ki_1 dX8_sheet_106 (g_iret rfl dX8_sheet_107 (Nat.le_of_ble_eq_true rfl) (Nat.le_of_ble_eq_true rfl) ?q107_3)) (fun h80 => g_iload2 dX8_sheet_83 (g_if_lt (tgt := 106) dX8_sheet_84 (by decide) (fun h84 => g_iconst ki_1 dX8_sheet_106 (g_iret rfl dX8_sheet_107 (Nat.le_of_ble_eq_true rfl) (Nat.le_of_ble_eq_true rfl) ?q107_3')) (fun h84 => ?s87_3)))))
          case s87_3 => omega
          case q107_3 => exact fin
          case q107_3' => exact fin
        · have hjm := hj (by omega)
          have ej := t_nI (n := j) (by omega)
          have hix := ix_40 (i := i) (p := j) hi4 (by omega)
          refine g_iload4 dX8_sheet_77 (g_iload3 dX8_sheet_79 (g_icmp_ge (tgt := 106) dX8_sheet_80 (by decide) (fun h80 => ?s106_4) (fun h80 => g_iload2 dX8_sheet_83 (g_if_lt (tgt := 106) dX8_sheet_84 (by decide) (fun h84 => ?s106_4') (fun h84 => g_aload0 dX8_sheet_87 (g_mget fl_X8_93 mg_55 dX8_sheet_88 (g_bipush kb_40 dX8_sheet_91 (g_iload1 dX8_sheet_93 (g_imul dX8_sheet_94 (g_iload4 dX8_sheet_95 (g_iadd dX8_sheet_97 (g_iconst ki_0 dX8_sheet_98 (g_mis ma_55 mas_55 dX8_sheet_99 ?b99_4 (g_iinc4 ki_1 dX8_sheet_100 rfl rfl (g_goto (tgt := 77) dX8_sheet_103 (by decide) (?s77_4))))))))))))))))
          case s106_4 => omega
          case s106_4' => omega
          case b99_4 => rw [hix]; show _ ∧ _ < (160 : Int); omega
          case s77_4 =>
            rw [hix, Int.toNat_natCast, nI_1]
            refine ih (j + 1) _ (fun _ => by omega) (h5.up 55 _ rfl) ?_ ?_ ?_ ?_ ?_
            · rw [updA_o (by decide)]; exact k1
            · rw [updA_o (by decide)]; exact k2
            · rw [updA_o (by decide)]; exact k3
            · intro q hq
              rw [updA_s]
              by_cases hqj : q = j
              · rw [hqj, upd_s]
              · rw [upd_o (by omega)]; exact k4 q (by omega)
            · intro q hq
              rw [updA_s, upd_o (by omega)]; exact k5 q hq
    have at60 : ∀ z : Int32, z = g_bi (0 ≤ so.toInt) → G E mX8_sheet (d + 3) 0 0 A Q 0 0 60 [some (.ref (b 0)), some (.int (nI i)), some (.int so), some (.int m), none] [] (mW E b v t (updA f 52 (upd (f 52) i z))) := by
      intro z hz
      refine g_aload0 dX8_sheet_60 (g_mget fl_X8_87 mg_53 dX8_sheet_61 (g_iload1 dX8_sheet_64 (g_iload2 dX8_sheet_65 (g_mis ma_53 mas_53 dX8_sheet_66 ?b66_5 (g_aload0 dX8_sheet_67 (g_mget fl_X8_90 mg_54 dX8_sheet_68 (g_iload1 dX8_sheet_71 (g_iload3 dX8_sheet_72 (g_mis ma_54 mas_54 dX8_sheet_73 ?b73_5 (g_iconst ki_0 dX8_sheet_74 (g_istore4 dX8_sheet_75 rfl rfl (?s77_5))))))))))))
      case b66_5 => omega
      case b73_5 => omega
      case s77_5 =>
        rw [ei, Int.toNat_natCast]
        refine tail z hz m.toInt.toNat 0 _ (fun q => by omega) (((agF.rf.up 52 _ rfl).up 53 _ rfl).up 54 _ rfl) ?_ ?_ ?_ (fun q hq => absurd hq (Nat.not_lt_zero q)) (fun q _ => ?_)
        · rw [updA_o (by decide), updA_o (by decide), updA_s]
        · rw [updA_o (by decide), updA_s, updA_o (by decide)]
        · rw [updA_s, updA_o (by decide), updA_o (by decide)]
        · rw [updA_o (by decide), updA_o (by decide), updA_o (by decide)]
    refine g_aload0 dX8_sheet_45 (g_mget fl_X8_83 mg_52 dX8_sheet_46 (g_iload1 dX8_sheet_49 (g_iload2 dX8_sheet_50 (g_if_lt (tgt := 58) dX8_sheet_51 (by decide) (fun h51 => g_iconst ki_0 dX8_sheet_58 (?c59_6)) (fun h51 => g_iconst ki_1 dX8_sheet_54 (g_goto (tgt := 59) dX8_sheet_55 (by decide) (?c59_6')))))))
    case c59_6 =>
      refine g_mbs dX8_sheet_59 (by show _ ∧ _ < (4 : Int); omega) (by decide) ?_
      rw [ei, Int.toNat_natCast]
      exact at60 0 (by rw [g_bi0 (by omega)])
    case c59_6' =>
      refine g_mbs dX8_sheet_59 (by show _ ∧ _ < (4 : Int); omega) (by decide) ?_
      rw [ei, Int.toNat_natCast]
      exact at60 1 (by rw [g_bi1 (by omega)])
  refine g_iload1 dX8_sheet_0 (r_X8_isSheet hN mv_X8_300 dX8_sheet_1 (Nat.le_of_ble_eq_true rfl) (Nat.le_of_ble_eq_true rfl) rfl (g_if_eq (tgt := 31) dX8_sheet_4 (by decide) (fun h4 => g_bipush kb_m2 dX8_sheet_31 (g_iret rfl dX8_sheet_33 (Nat.le_of_ble_eq_true rfl) (Nat.le_of_ble_eq_true rfl) ?q33_7)) (fun h4 => g_iload2 dX8_sheet_7 (g_i2l dX8_sheet_8 (g_ldc2_w kj_X8_358 dX8_sheet_9 (g_ldc2_w kj_X8_123 dX8_sheet_12 (r_X8_in hN mv_X8_106 dX8_sheet_15 (Nat.le_of_ble_eq_true rfl) (Nat.le_of_ble_eq_true rfl) rfl (g_if_eq (tgt := 31) dX8_sheet_18 (by decide) (fun h18 => g_bipush kb_m2 dX8_sheet_31 (g_iret rfl dX8_sheet_33 (Nat.le_of_ble_eq_true rfl) (Nat.le_of_ble_eq_true rfl) ?q33_7')) (fun h18 => g_iload2 dX8_sheet_21 (g_if_lt (tgt := 34) dX8_sheet_22 (by decide) (fun h22 => g_iload2 dX8_sheet_34 (g_if_lt (tgt := 45) dX8_sheet_35 (by decide) (fun h35 => ?s45_7) (fun h35 => g_iload3 dX8_sheet_38 (g_if_ge (tgt := 45) dX8_sheet_39 (by decide) (fun h39 => ?s45_7') (fun h39 => g_bipush kb_m14 dX8_sheet_42 (g_iret rfl dX8_sheet_44 (Nat.le_of_ble_eq_true rfl) (Nat.le_of_ble_eq_true rfl) ?q44_7)))))) (fun h22 => g_iload3 dX8_sheet_25 (g_bipush kb_40 dX8_sheet_26 (g_icmp_le (tgt := 34) dX8_sheet_28 (by decide) (fun h28 => g_iload2 dX8_sheet_34 (g_if_lt (tgt := 45) dX8_sheet_35 (by decide) (fun h35 => ?s45_7'') (fun h35 => g_iload3 dX8_sheet_38 (g_if_ge (tgt := 45) dX8_sheet_39 (by decide) (fun h39 => ?s45_7''') (fun h39 => g_bipush kb_m14 dX8_sheet_42 (g_iret rfl dX8_sheet_44 (Nat.le_of_ble_eq_true rfl) (Nat.le_of_ble_eq_true rfl) ?q44_7')))))) (fun h28 => g_bipush kb_m2 dX8_sheet_31 (g_iret rfl dX8_sheet_33 (Nat.le_of_ble_eq_true rfl) (Nat.le_of_ble_eq_true rfl) ?q33_7'')))))))))))))))
  all_goals try simp only [g_biz, Int32.toInt_toInt64, tl_m4611686018427387904, tl_m1, tl_0, tl_1, tl_2, tl_3, tl_4, tl_5, tl_9, tl_10, tl_20, tl_40, tl_43, tl_48, tl_57, tl_60, tl_97, tl_99, tl_122, tl_255] at *
  all_goals first
    | exact main (by omega) (by omega) (by omega)
    | (refine bad _ ?_; unfold sSheet; first | (rw [if_pos (by omega)]; done) | (rw [if_neg (by omega), if_neg (by omega), if_pos (by omega)]; done) | (rw [if_neg (by omega), if_neg (by omega), if_neg (by omega), if_pos (by omega)]))
    | omega
set_option maxRecDepth 20000 in
set_option maxHeartbeats 2000000 in
theorem c_X8_cell (hN : g_N E) (hS : MSh f i s) (x j y : Int32) (hx : shN x i) : g_Ci E mX8_cell (d + 3) [.ref (b 0), .int x, .int j, .int y] (mW E b v t f) (fun z w => z = (sCell x j y s).1 ∧ ∃ f', w = mW E b v t f' ∧ agF [55] f f' ∧ MSh f' i (sCell x j y s).2 ∧ ∀ i' s', i' ≠ i → MSh f i' s' → MSh f' i' s') := by
  have hS0 := hS
  obtain ⟨hi4, hs40, hso, hm1, hm2⟩ := hS
  refine g_enterI hN.1 (by decide) [some (.ref (b 0)), some (.int x), some (.int j), some (.int y)] rfl (Nat.le_of_ble_eq_true rfl) (fun A Q hQ => ?_)
  have tcm12 := tc_m12; have tcm11 := tc_m11; have tcm2 := tc_m2; have tc1 := tc_1; have tc40 := tc_40
  have tc40 := tc_40
  unfold sCell at hQ
  refine g_iload1 dX8_cell_0 (r_X8_isSheet hN mv_X8_300 dX8_cell_1 (Nat.le_of_ble_eq_true rfl) (Nat.le_of_ble_eq_true rfl) rfl (g_if_ne (tgt := 10) dX8_cell_4 (by decide) (fun h4 => ?s10) (fun h4 => g_bipush kb_m2 dX8_cell_7 (g_iret rfl dX8_cell_9 (Nat.le_of_ble_eq_true rfl) (Nat.le_of_ble_eq_true rfl) ?q9))))
  all_goals try simp only [g_biz, Int32.toInt_toInt64, tl_m4611686018427387904, tl_m1, tl_0, tl_1, tl_2, tl_3, tl_4, tl_5, tl_9, tl_10, tl_20, tl_40, tl_43, tl_48, tl_57, tl_60, tl_97, tl_99, tl_122, tl_255] at *
  case q9 => rw [if_pos (by omega)] at hQ; exact hQ _ _ ⟨rfl, f, rfl, agF.rf, hS0, fun _ _ _ h => h⟩
  case s10 =>
    rw [if_neg (by omega)] at hQ
    have hxi := hx (by omega)
    have hxx : x = nI i := by rw [← hxi]; exact t_of (by omega)
    have ei := t_nI (n := i) (by omega)
    subst hxx
    by_cases hms : s.1.toInt = -1
    · have e52 : (f 52 i).toInt = 0 := by rw [hm1 hms]; decide
      rw [if_pos hms] at hQ
      refine g_aload0 dX8_cell_10 (g_mget fl_X8_83 mg_52 dX8_cell_11 (g_iload1 dX8_cell_14 (g_mba ma_52 dX8_cell_15 ?b15_2 (g_if_ne (tgt := 22) dX8_cell_16 (by decide) (fun h16 => ?s22_2) (fun h16 => g_bipush kb_m11 dX8_cell_19 (g_iret rfl dX8_cell_21 (Nat.le_of_ble_eq_true rfl) (Nat.le_of_ble_eq_true rfl) ?q21_2))))))
      all_goals try rw [ei, Int.toNat_natCast] at h16
      case b15_2 => omega
      case s22_2 => omega
      case q21_2 => exact hQ _ _ ⟨rfl, f, rfl, agF.rf, hS0, fun _ _ _ h => h⟩
    · obtain ⟨h52, h53, h54, h55⟩ := hm2 hms
      have e52 : (f 52 i).toInt = 1 := by rw [h52]; decide
      have e54 : (f 54 i - 1).toInt = (s.2.length : Int) - 1 := by rw [h54, t_sub (by rw [tc_1, t_nI (by omega)]; omega) (by rw [tc_1, t_nI (by omega)]; omega), t_nI (by omega), tc_1]
      rw [if_neg hms] at hQ
      have fin : (0 ≤ j.toInt ∧ j.toInt < s.2.length) → ∀ z, z = cnv s.1 y → G E mX8_cell (d + 3) 0 0 A Q 0 0 83 [some (.ref (b 0)), some (.int (nI i)), some (.int j), some (.int y)] [.int z, .int (40 * nI i + j), .ref (b 26)] (mW E b v t f) := by
        intro hj z hz
        rw [if_neg (by omega)] at hQ
        have hjj : j = nI j.toInt.toNat := t_of hj.1
        have hix := ix_40 (i := i) (p := j.toInt.toNat) hi4 (by omega)
        rw [← hjj] at hix
        refine g_mis ma_55 mas_55 dX8_cell_83 ?b83_3 (g_iconst ki_1 dX8_cell_84 (g_iret rfl dX8_cell_85 (Nat.le_of_ble_eq_true rfl) (Nat.le_of_ble_eq_true rfl) ?q85_3))
        case b83_3 => rw [hix]; show _ ∧ _ < (160 : Int); omega
        case q85_3 =>
          rw [hix, Int.toNat_natCast]
          refine hQ _ _ ⟨rfl, _, rfl, agF.rf.up 55 _ rfl, ⟨hi4, by dsimp only; rw [List.length_set]; exact hs40, hso, fun q => absurd q hms, fun _ => ⟨by rw [updA_o (by decide)]; exact h52, by rw [updA_o (by decide)]; exact h53, by rw [updA_o (by decide)]; dsimp only; rw [List.length_set]; exact h54, ?_⟩⟩, ?_⟩
          · intro q w hq
            dsimp only at hq
            rw [updA_s]
            by_cases hqj : q = j.toInt.toNat
            · rw [hqj, List.getElem?_set_self (by omega)] at hq
              rw [hqj, upd_s, hz]
              exact Option.some.inj hq
            · rw [List.getElem?_set_ne (fun h => hqj h.symm)] at hq
              rw [upd_o (by omega)]
              exact h55 q w hq
          · intro i' s' hne hh
            obtain ⟨a1, a2, a3, a4, a5⟩ := hh
            refine ⟨a1, a2, a3, fun q => by rw [updA_o (by decide)]; exact a4 q, fun q => ?_⟩
            obtain ⟨c1, c2, c3, c4⟩ := a5 q
            refine ⟨by rw [updA_o (by decide)]; exact c1, by rw [updA_o (by decide)]; exact c2, by rw [updA_o (by decide)]; exact c3, fun p w hp => ?_⟩
            have hpl := (List.getElem?_eq_some_iff.mp hp).1
            rw [updA_s, upd_o (by omega)]
            exact c4 p w hp
      have ecn := t_nI (n := i) (by omega)
      refine g_aload0 dX8_cell_10 (g_mget fl_X8_83 mg_52 dX8_cell_11 (g_iload1 dX8_cell_14 (g_mba ma_52 dX8_cell_15 ?b15_4 (g_if_ne (tgt := 22) dX8_cell_16 (by decide) (fun h16 => g_iload2 dX8_cell_22 (g_i2l dX8_cell_23 (g_lconst kl_0 dX8_cell_24 (g_aload0 dX8_cell_25 (g_mget fl_X8_90 mg_54 dX8_cell_26 (g_iload1 dX8_cell_29 (g_mia ma_54 dX8_cell_30 ?b30_4 (g_iconst ki_1 dX8_cell_31 (g_isub dX8_cell_32 (g_i2l dX8_cell_33 (r_X8_in hN mv_X8_106 dX8_cell_34 (Nat.le_of_ble_eq_true rfl) (Nat.le_of_ble_eq_true rfl) rfl (g_if_ne (tgt := 43) dX8_cell_37 (by decide) (fun h37 => g_aload0 dX8_cell_43 (g_mget fl_X8_93 mg_55 dX8_cell_44 (g_bipush kb_40 dX8_cell_47 (g_iload1 dX8_cell_49 (g_imul dX8_cell_50 (g_iload2 dX8_cell_51 (g_iadd dX8_cell_52 (g_aload0 dX8_cell_53 (g_mget fl_X8_87 mg_53 dX8_cell_54 (g_iload1 dX8_cell_57 (g_mia ma_53 dX8_cell_58 ?b58_4 (g_if_ne (tgt := 67) dX8_cell_59 (by decide) (fun h59 => g_aload0 dX8_cell_67 (g_mget fl_X8_87 mg_53 dX8_cell_68 (g_iload1 dX8_cell_71 (g_mia ma_53 dX8_cell_72 ?b72_4 (g_iconst ki_1 dX8_cell_73 (g_icmp_ne (tgt := 82) dX8_cell_74 (by decide) (fun h74 => g_iload3 dX8_cell_82 (?s83_4)) (fun h74 => g_iload3 dX8_cell_77 (g_i2s dX8_cell_78 (g_goto (tgt := 83) dX8_cell_79 (by decide) (?s83_4')))))))))) (fun h59 => g_iload3 dX8_cell_62 (g_i2b dX8_cell_63 (g_goto (tgt := 83) dX8_cell_64 (by decide) (?s83_4'')))))))))))))))) (fun h37 => g_bipush kb_m12 dX8_cell_40 (g_iret rfl dX8_cell_42 (Nat.le_of_ble_eq_true rfl) (Nat.le_of_ble_eq_true rfl) ?q42_4)))))))))))))) (fun h16 => g_bipush kb_m11 dX8_cell_19 (g_iret rfl dX8_cell_21 (Nat.le_of_ble_eq_true rfl) (Nat.le_of_ble_eq_true rfl) ?q21_4))))))
      all_goals try simp only [g_biz, Int32.toInt_toInt64, tl_m4611686018427387904, tl_m1, tl_0, tl_1, tl_2, tl_3, tl_4, tl_5, tl_9, tl_10, tl_20, tl_40, tl_43, tl_48, tl_57, tl_60, tl_97, tl_99, tl_122, tl_255] at *
      all_goals try rw [ei, Int.toNat_natCast] at *
      all_goals try (first | omega | (show _ ∧ _ < (4 : Int); omega) | (show _ ∧ _ < (6 : Int); omega))
      case q42_4 => rw [if_pos (by omega)] at hQ; exact hQ _ _ ⟨rfl, f, rfl, agF.rf, hS0, fun _ _ _ h => h⟩
      case s83_4 =>
        refine fin (by omega) _ ?_
        rw [h53] at h59 h74
        unfold cnv
        rw [if_neg (by omega), if_neg (by omega)]
      case s83_4' =>
        refine fin (by omega) _ ?_
        rw [h53] at h59 h74
        unfold cnv
        rw [if_neg (by omega), if_pos (by omega)]
      case s83_4'' =>
        refine fin (by omega) _ ?_
        rw [h53] at h59
        unfold cnv
        rw [if_pos (by omega)]
end S99d
