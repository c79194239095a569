theorem updA_2 {f : Nat → Nat → Int32} {i : Nat} {x y : Nat → Int32} : updA (updA f i x) i y = updA f i y := by
  funext j
  by_cases h : j = i
  · rw [h, updA_s, updA_s]
  · rw [updA_o h, updA_o h, updA_o h]
def swG (g : Nat → Int32) (p : Nat) : Nat → Int32 := upd (upd g p (g (p + 1))) (p + 1) (g p)
theorem Lst.swG {O : List Nat} {g : Nat → Int32} {p : Nat} (h : Lst O g) (hp : p + 1 < O.length) : Lst (swapL O p) (swG g p) := by
  have h1 := getD_at (l := O) (i := p) (by omega)
  have h2 := getD_at (l := O) (i := p + 1) (by omega)
  rw [swapL_eq h1 h2]
  show Lst _ (upd (upd g p (g (p + 1))) (p + 1) (g p))
  rw [h.at h1, h.at h2]
  exact (h.set p _).set (p + 1) _
section S72
variable {E : GE} {M : GM} {d mc ms : Nat} {A : Nat → Prop} {Q : Option Value → va_W → Prop} {k n pc : Nat} {ls : List (Option Value)} {st : List Value} {b : Nat → Nat} {v : Nat → Int32} {t : Int64} {f : Nat → Nat → Int32} {D : Dg} {L : List Cr} {r : Nat}
set_option maxRecDepth 20000 in
theorem c_X8_swap (hN : g_N E) {p : Nat} (hp : p + 1 < 6) : g_Cv E mX8_swap (d + 1) [.ref (b 0), .int (nI p)] (mW E b v t f) (fun w => w = mW E b v t (updA f 11 (swG (f 11) p))) := by
  have ep := t_nI (n := p) (by omega)
  have ep1 := t_nI (n := p + 1) (by omega)
  refine g_enterV hN.1 (by decide) [some (.ref (b 0)), some (.int (nI p)), none] rfl (Nat.le_of_ble_eq_true rfl) (fun A Q hQ => ?_)
  have tc1 := tc_1
  refine g_aload0 dX8_swap_0 (g_mget fl_X8_35 mg_11 dX8_swap_1 (g_iload1 dX8_swap_4 (g_mia ma_11 dX8_swap_5 ?b5 (g_istore2 dX8_swap_6 rfl rfl (g_aload0 dX8_swap_7 (g_mget fl_X8_35 mg_11 dX8_swap_8 (g_iload1 dX8_swap_11 (g_aload0 dX8_swap_12 (g_mget fl_X8_35 mg_11 dX8_swap_13 (g_iload1 dX8_swap_16 (g_iconst ki_1 dX8_swap_17 (g_iadd dX8_swap_18 (g_mia ma_11 dX8_swap_19 ?b19 (g_mis ma_11 mas_11 dX8_swap_20 ?b20 (g_aload0 dX8_swap_21 (g_mget fl_X8_35 mg_11 dX8_swap_22 (g_iload1 dX8_swap_25 (g_iconst ki_1 dX8_swap_26 (g_iadd dX8_swap_27 (g_iload2 dX8_swap_28 (g_mis ma_11 mas_11 dX8_swap_29 ?b29 (g_vret rfl dX8_swap_30 (Nat.le_of_ble_eq_true rfl) (Nat.le_of_ble_eq_true rfl) ?q30))))))))))))))))))))))
  case q30 =>
    refine hQ _ ?_
    rw [nI_1, ep, ep1, Int.toNat_natCast, Int.toNat_natCast, updA_s, updA_2]
    rfl
  all_goals try rw [nI_1]
  all_goals omega
set_option maxRecDepth 20000 in
set_option maxHeartbeats 1000000 in
theorem c_X8_dog (hN : g_N E) (hD : dgOK D) (h : MD v f D) {P : Nat} (hP : P ≤ 40) (h15 : v 15 = nI P) (x y z : Int32) : g_Ci E mX8_dog (d + 3) [.ref (b 0), .int x, .int y, .int z] (mW E b v t f) (fun a w => a = (sDog D P x y z).1 ∧ ∃ v' f', w = mW E b v' t f' ∧ agV [12] v v' ∧ agF [7, 8, 9, 10, 11] f f' ∧ MD v' f' (sDog D P x y z).2) := by
  obtain ⟨hn, l1, l2, l3, l4, b1, b2, b3, b4, b5, hnd⟩ := id hD
  refine g_enterI hN.1 (by decide) [some (.ref (b 0)), some (.int x), some (.int y), some (.int z)] rfl (Nat.le_of_ble_eq_true rfl) (fun A Q hQ => ?_)
  have tcm4 := tc_m4; have tcm3 := tc_m3; have tcm2 := tc_m2; have tc1 := tc_1; have tc6 := tc_6; have tc10 := tc_10
  have e1 := t_nI (n := D.1.length) (by omega)
  have e2 := t_nI (n := P) (by omega)
  rw [← h15] at e2
  rw [← h.1] at e1
  unfold sDog at hQ
  have no : ∀ q : Int32, (sDog D P x y z) = (q, D) → (sDog D P x y z).1 = q ∧ (sDog D P x y z).2 = D := fun q hq => by rw [hq]; exact ⟨rfl, rfl⟩
  refine g_iload1 dX8_dog_0 (g_i2l dX8_dog_1 (g_lconst kl_0 dX8_dog_2 (g_ldc2_w kj_X8_110 dX8_dog_3 (r_X8_in hN mv_X8_106 dX8_dog_6 (Nat.le_of_ble_eq_true rfl) (Nat.le_of_ble_eq_true rfl) rfl (g_if_eq (tgt := 38) dX8_dog_9 (by decide) (fun h9 => g_bipush kb_m2 dX8_dog_38 (g_iret rfl dX8_dog_40 (Nat.le_of_ble_eq_true rfl) (Nat.le_of_ble_eq_true rfl) ?q40)) (fun h9 => g_iload2 dX8_dog_12 (g_i2l dX8_dog_13 (g_ldc2_w kj_X8_112 dX8_dog_14 (g_ldc2_w kj_X8_114 dX8_dog_17 (r_X8_in hN mv_X8_106 dX8_dog_20 (Nat.le_of_ble_eq_true rfl) (Nat.le_of_ble_eq_true rfl) rfl (g_if_eq (tgt := 38) dX8_dog_23 (by decide) (fun h23 => g_bipush kb_m2 dX8_dog_38 (g_iret rfl dX8_dog_40 (Nat.le_of_ble_eq_true rfl) (Nat.le_of_ble_eq_true rfl) ?q40')) (fun h23 => g_iload3 dX8_dog_26 (g_i2l dX8_dog_27 (g_lconst kl_0 dX8_dog_28 (g_ldc2_w kj_X8_114 dX8_dog_29 (r_X8_in hN mv_X8_106 dX8_dog_32 (Nat.le_of_ble_eq_true rfl) (Nat.le_of_ble_eq_true rfl) rfl (g_if_ne (tgt := 41) dX8_dog_35 (by decide) (fun h35 => g_aload0 dX8_dog_41 (g_mget fl_X8_116 mg_15 dX8_dog_42 (g_if_le (tgt := 51) dX8_dog_45 (by decide) (fun h45 => g_aload0 dX8_dog_51 (g_mget fl_X8_103 mg_12 dX8_dog_52 (g_bipush kb_6 dX8_dog_55 (g_icmp_ne (tgt := 63) dX8_dog_57 (by decide) (fun h57 => g_aload0 dX8_dog_63 (g_mget fl_X8_23 mg_7 dX8_dog_64 (g_aload0 dX8_dog_67 (g_mget fl_X8_103 mg_12 dX8_dog_68 (g_iload1 dX8_dog_71 (g_mis ma_7 mas_7 dX8_dog_72 ?b72 (g_aload0 dX8_dog_73 (g_mget fl_X8_26 mg_8 dX8_dog_74 (g_aload0 dX8_dog_77 (g_mget fl_X8_103 mg_12 dX8_dog_78 (g_iload2 dX8_dog_81 (g_bipush kb_10 dX8_dog_82 (g_idiv dX8_dog_84 ?z84 (g_mis ma_8 mas_8 dX8_dog_85 ?b85 (g_aload0 dX8_dog_86 (g_mget fl_X8_29 mg_9 dX8_dog_87 (g_aload0 dX8_dog_90 (g_mget fl_X8_103 mg_12 dX8_dog_91 (g_iload2 dX8_dog_94 (g_bipush kb_10 dX8_dog_95 (g_irem dX8_dog_97 ?z97 (g_mis ma_9 mas_9 dX8_dog_98 ?b98 (g_aload0 dX8_dog_99 (g_mget fl_X8_32 mg_10 dX8_dog_100 (g_aload0 dX8_dog_103 (g_mget fl_X8_103 mg_12 dX8_dog_104 (g_iload3 dX8_dog_107 (g_mis ma_10 mas_10 dX8_dog_108 ?b108 (g_aload0 dX8_dog_109 (g_mget fl_X8_35 mg_11 dX8_dog_110 (g_aload0 dX8_dog_113 (g_mget fl_X8_103 mg_12 dX8_dog_114 (g_aload0 dX8_dog_117 (g_mget fl_X8_103 mg_12 dX8_dog_118 (g_mis ma_11 mas_11 dX8_dog_121 ?b121 (g_aload0 dX8_dog_122 (g_dup dX8_dog_123 rfl (g_mget fl_X8_103 mg_12 dX8_dog_124 (g_iconst ki_1 dX8_dog_127 (g_iadd dX8_dog_128 (g_mput fl_X8_103 fp_7_12 ms_12 rfl rfl rfl dX8_dog_129 (g_aload0 dX8_dog_132 (g_mget fl_X8_103 mg_12 dX8_dog_133 (g_iconst ki_1 dX8_dog_136 (g_isub dX8_dog_137 (g_iret rfl dX8_dog_138 (Nat.le_of_ble_eq_true rfl) (Nat.le_of_ble_eq_true rfl) ?q138)))))))))))))))))))))))))))))))))))))))))))))) (fun h57 => g_bipush kb_m4 dX8_dog_60 (g_iret rfl dX8_dog_62 (Nat.le_of_ble_eq_true rfl) (Nat.le_of_ble_eq_true rfl) ?q62)))))) (fun h45 => g_bipush kb_m3 dX8_dog_48 (g_iret rfl dX8_dog_50 (Nat.le_of_ble_eq_true rfl) (Nat.le_of_ble_eq_true rfl) ?q50))))) (fun h35 => g_bipush kb_m2 dX8_dog_38 (g_iret rfl dX8_dog_40 (Nat.le_of_ble_eq_true rfl) (Nat.le_of_ble_eq_true rfl) ?q40'')))))))))))))))))))
  all_goals try simp only [g_biz, Int32.toInt_toInt64, tl_m4611686018427387904, tl_m1, tl_0, tl_1, tl_2, tl_3, tl_4, tl_5, tl_9, tl_10, tl_20, tl_40, tl_43, tl_48, tl_57, tl_60, tl_97, tl_99, tl_122, tl_255] at *
  case q40 => rw [if_pos (by omega)] at hQ; exact hQ _ _ ⟨rfl, v, f, rfl, agV.rf, agF.rf, h⟩
  case q40' => rw [if_pos (by omega)] at hQ; exact hQ _ _ ⟨rfl, v, f, rfl, agV.rf, agF.rf, h⟩
  case q40'' => rw [if_pos (by omega)] at hQ; exact hQ _ _ ⟨rfl, v, f, rfl, agV.rf, agF.rf, h⟩
  all_goals rw [if_neg (by omega)] at hQ
  case q50 => rw [if_pos (by omega)] at hQ; exact hQ _ _ ⟨rfl, v, f, rfl, agV.rf, agF.rf, h⟩
  all_goals rw [if_neg (by omega)] at hQ
  case q62 => rw [if_pos (by omega)] at hQ; exact hQ _ _ ⟨rfl, v, f, rfl, agV.rf, agF.rf, h⟩
  case z84 => decide
  case z97 => decide
  all_goals try omega
  case q138 =>
    rw [if_neg (by omega)] at hQ
    have ex : x = nI x.toInt.toNat := t_of (by omega)
    have ey : y = nI y.toInt.toNat := t_of (by omega)
    have ez : z = nI z.toInt.toNat := t_of (by omega)
    have f1 : y / 10 = nI (y.toInt.toNat / 10) := by
      conv => lhs; rw [ey, show (10 : Int32) = nI 10 from rfl]
      exact pk_div (by omega) (by omega) (by omega)
    have f2 : y - y / 10 * 10 = nI (y.toInt.toNat % 10) := by
      conv => lhs; rw [ey, show (10 : Int32) = nI 10 from rfl]
      exact pk_rem (by omega) (by omega) (by omega)
    have e3 : (v 12).toInt.toNat = D.1.length := by omega
    refine hQ _ _ ⟨?_, _, _, rfl, (agV.rf.up 12 _ rfl), ((((agF.rf.up 7 _ rfl).up 8 _ rfl).up 9 _ rfl).up 10 _ rfl).up 11 _ rfl, ?_⟩
    · rw [upd_s, h.1, nI_1, nI_pred]
    · rw [f2, f1, e3]
      unfold MD
      rw [upd_s, updA_s]
      simp only [updA_o (show (7 : Nat) ≠ 8 by decide), updA_o (show (7 : Nat) ≠ 9 by decide), updA_o (show (7 : Nat) ≠ 10 by decide), updA_o (show (7 : Nat) ≠ 11 by decide), updA_o (show (8 : Nat) ≠ 7 by decide), updA_o (show (8 : Nat) ≠ 9 by decide), updA_o (show (8 : Nat) ≠ 10 by decide), updA_o (show (8 : Nat) ≠ 11 by decide), updA_o (show (9 : Nat) ≠ 7 by decide), updA_o (show (9 : Nat) ≠ 8 by decide), updA_o (show (9 : Nat) ≠ 10 by decide), updA_o (show (9 : Nat) ≠ 11 by decide), updA_o (show (10 : Nat) ≠ 7 by decide), updA_o (show (10 : Nat) ≠ 8 by decide), updA_o (show (10 : Nat) ≠ 9 by decide), updA_o (show (10 : Nat) ≠ 11 by decide), updA_o (show (11 : Nat) ≠ 7 by decide), updA_o (show (11 : Nat) ≠ 8 by decide), updA_o (show (11 : Nat) ≠ 9 by decide), updA_o (show (11 : Nat) ≠ 10 by decide), updA_s]
      refine ⟨?_, ?_, ?_, ?_, ?_, ?_⟩
      · rw [h.1, nI_1]; simp
      · have := h.2.1.push x.toInt.toNat
        rw [← ex] at this; exact this
      · have := h.2.2.1.push (y.toInt.toNat / 10)
        rw [l1] at this; exact this
      · have := h.2.2.2.1.push (y.toInt.toNat % 10)
        rw [l2] at this; exact this
      · have := h.2.2.2.2.1.push z.toInt.toNat
        rw [← ez, l3] at this; exact this
      · have := h.2.2.2.2.2.push D.1.length
        rw [l4, ← h.1] at this; exact this
set_option maxRecDepth 20000 in
set_option maxHeartbeats 2000000 in
theorem c_X8_set (hN : g_N E) (hD : dgOK D) (h : MD v f D) (x y z : Int32) : g_Ci E mX8_set (d + 4) [.ref (b 0), .int x, .int y, .int z] (mW E b v t f) (fun a w => a = (sSet D x y z).1 ∧ ∃ f', w = mW E b v t f' ∧ agF [8, 9, 10] f f' ∧ MD v f' (sSet D x y z).2) := by
  obtain ⟨hn, l1, l2, l3, l4, b1, b2, b3, b4, b5, hnd⟩ := id hD
  obtain ⟨n0, n1, n2⟩ := h.n1 hn
  refine g_enterI hN.1 (by decide) [some (.ref (b 0)), some (.int x), some (.int y), some (.int z), none] rfl (Nat.le_of_ble_eq_true rfl) (fun A Q hQ => ?_)
  have tcm2 := tc_m2; have tc1 := tc_1; have tc2 := tc_2
  unfold sSet at hQ
  have bad : (¬ (0 ≤ x.toInt ∧ x.toInt < D.1.length) ∨ ¬ (0 ≤ y.toInt ∧ y.toInt ≤ 2) ∨ ¬ ((if y.toInt = 0 then 1 else 0) ≤ z.toInt ∧ z.toInt ≤ (if y.toInt = 2 then 99 else 9))) → Q (some (.int (-2))) (mW E b v t f) := by
    intro hb
    by_cases c1 : ¬ (0 ≤ x.toInt ∧ x.toInt < D.1.length)
    · rw [if_pos c1] at hQ; exact hQ _ _ ⟨rfl, f, rfl, agF.rf, h⟩
    · rw [if_neg c1] at hQ
      by_cases c2 : y.toInt = 0
      · rw [if_pos c2] at hQ
        rw [if_pos c2, if_neg (by omega)] at hb
        rw [if_neg (by omega)] at hQ
        exact hQ _ _ ⟨rfl, f, rfl, agF.rf, h⟩
      · rw [if_neg c2] at hQ
        rw [if_neg c2] at hb
        by_cases c3 : y.toInt = 1
        · rw [if_pos c3] at hQ
          rw [if_neg (by omega)] at hb
          rw [if_neg (by omega)] at hQ
          exact hQ _ _ ⟨rfl, f, rfl, agF.rf, h⟩
        · rw [if_neg c3] at hQ
          by_cases c4 : y.toInt = 2
          · rw [if_pos c4] at hQ
            rw [if_pos c4] at hb
            rw [if_neg (by omega)] at hQ
            exact hQ _ _ ⟨rfl, f, rfl, agF.rf, h⟩
          · rw [if_neg c4] at hQ
            exact hQ _ _ ⟨rfl, f, rfl, agF.rf, h⟩
  have badG : (¬ (0 ≤ x.toInt ∧ x.toInt < D.1.length) ∨ ¬ (0 ≤ y.toInt ∧ y.toInt ≤ 2) ∨ ¬ ((if y.toInt = 0 then 1 else 0) ≤ z.toInt ∧ z.toInt ≤ (if y.toInt = 2 then 99 else 9))) → G E mX8_set (d + 4) 0 0 A Q 0 0 51 [some (.ref (b 0)), some (.int x), some (.int y), some (.int z), none] [] (mW E b v t f) := by
    intro hb
    refine g_bipush kb_m2 dX8_set_51 (g_iret rfl dX8_set_53 (Nat.le_of_ble_eq_true rfl) (Nat.le_of_ble_eq_true rfl) ?q53)
    exact bad hb
  have good : (0 ≤ x.toInt ∧ x.toInt < D.1.length) → (0 ≤ y.toInt ∧ y.toInt ≤ 2) → ((if y.toInt = 0 then 1 else 0) ≤ z.toInt ∧ z.toInt ≤ (if y.toInt = 2 then 99 else 9)) → G E mX8_set (d + 4) 0 0 A Q 0 0 54 [some (.ref (b 0)), some (.int x), some (.int y), some (.int z), none] [] (mW E b v t f) := by
    clear bad
    intro c1 c2 c3
    have hxn : x.toInt.toNat < D.1.length := by omega
    have ez : z = nI z.toInt.toNat := t_of (by split at c3 <;> omega)
    rw [if_neg (by omega)] at hQ
    rcases (show y.toInt = 0 ∨ y.toInt = 1 ∨ y.toInt = 2 by omega) with y0 | y0 | y0
    · rw [if_pos y0] at hQ
      rw [if_pos y0, if_neg (by omega)] at c3
      rw [if_pos c3] at hQ
      refine g_iload2 dX8_set_54 (g_if_ne (tgt := 67) dX8_set_55 (by decide) (fun h55 => g_iload2 dX8_set_67 (g_iconst ki_1 dX8_set_68 (g_icmp_ne (tgt := 81) dX8_set_69 (by decide) (fun h69 => g_aload0 dX8_set_81 (g_mget fl_X8_32 mg_10 dX8_set_82 (g_iload1 dX8_set_85 (g_mia ma_10 dX8_set_86 ?b86_2 (g_istore4 dX8_set_87 rfl rfl (g_iload2 dX8_set_89 (g_if_ne (tgt := 103) dX8_set_90 (by decide) (fun h90 => g_iload2 dX8_set_103 (g_iconst ki_1 dX8_set_104 (g_icmp_ne (tgt := 118) dX8_set_105 (by decide) (fun h105 => g_aload0 dX8_set_118 (g_mget fl_X8_32 mg_10 dX8_set_119 (g_iload1 dX8_set_122 (g_iload3 dX8_set_123 (g_mis ma_10 mas_10 dX8_set_124 ?b124_2 (g_iload4 dX8_set_125 (g_iret rfl dX8_set_127 (Nat.le_of_ble_eq_true rfl) (Nat.le_of_ble_eq_true rfl) ?q127_2))))))) (fun h105 => g_aload0 dX8_set_108 (g_mget fl_X8_29 mg_9 dX8_set_109 (g_iload1 dX8_set_112 (g_iload3 dX8_set_113 (g_mis ma_9 mas_9 dX8_set_114 ?b114_2 (g_goto (tgt := 125) dX8_set_115 (by decide) (g_iload4 dX8_set_125 (g_iret rfl dX8_set_127 (Nat.le_of_ble_eq_true rfl) (Nat.le_of_ble_eq_true rfl) ?q127_2'))))))))))) (fun h90 => g_aload0 dX8_set_93 (g_mget fl_X8_26 mg_8 dX8_set_94 (g_iload1 dX8_set_97 (g_iload3 dX8_set_98 (g_mis ma_8 mas_8 dX8_set_99 ?b99_2 (g_goto (tgt := 125) dX8_set_100 (by decide) (g_iload4 dX8_set_125 (g_iret rfl dX8_set_127 (Nat.le_of_ble_eq_true rfl) (Nat.le_of_ble_eq_true rfl) ?q127_2''))))))))))))))) (fun h69 => g_aload0 dX8_set_72 (g_mget fl_X8_29 mg_9 dX8_set_73 (g_iload1 dX8_set_76 (g_mia ma_9 dX8_set_77 ?b77_2 (g_goto (tgt := 87) dX8_set_78 (by decide) (g_istore4 dX8_set_87 rfl rfl (g_iload2 dX8_set_89 (g_if_ne (tgt := 103) dX8_set_90 (by decide) (fun h90 => g_iload2 dX8_set_103 (g_iconst ki_1 dX8_set_104 (g_icmp_ne (tgt := 118) dX8_set_105 (by decide) (fun h105 => g_aload0 dX8_set_118 (g_mget fl_X8_32 mg_10 dX8_set_119 (g_iload1 dX8_set_122 (g_iload3 dX8_set_123 (g_mis ma_10 mas_10 dX8_set_124 ?b124_2' (g_iload4 dX8_set_125 (g_iret rfl dX8_set_127 (Nat.le_of_ble_eq_true rfl) (Nat.le_of_ble_eq_true rfl) ?q127_2'''))))))) (fun h105 => g_aload0 dX8_set_108 (g_mget fl_X8_29 mg_9 dX8_set_109 (g_iload1 dX8_set_112 (g_iload3 dX8_set_113 (g_mis ma_9 mas_9 dX8_set_114 ?b114_2' (g_goto (tgt := 125) dX8_set_115 (by decide) (g_iload4 dX8_set_125 (g_iret rfl dX8_set_127 (Nat.le_of_ble_eq_true rfl) (Nat.le_of_ble_eq_true rfl) ?q127_2''''))))))))))) (fun h90 => g_aload0 dX8_set_93 (g_mget fl_X8_26 mg_8 dX8_set_94 (g_iload1 dX8_set_97 (g_iload3 dX8_set_98 (g_mis ma_8 mas_8 dX8_set_99 ?b99_2' (g_goto (tgt := 125) dX8_set_100 (by decide) (g_iload4 dX8_set_125 (g_iret rfl dX8_set_127 (Nat.le_of_ble_eq_true rfl) (Nat.le_of_ble_eq_true rfl) ?q127_2'''''))))))))))))))))))) (fun h55 => g_aload0 dX8_set_58 (g_mget fl_X8_26 mg_8 dX8_set_59 (g_iload1 dX8_set_62 (g_mia ma_8 dX8_set_63 ?b63_2 (g_goto (tgt := 87) dX8_set_64 (by decide) (g_istore4 dX8_set_87 rfl rfl (g_iload2 dX8_set_89 (g_if_ne (tgt := 103) dX8_set_90 (by decide) (fun h90 => g_iload2 dX8_set_103 (g_iconst ki_1 dX8_set_104 (g_icmp_ne (tgt := 118) dX8_set_105 (by decide) (fun h105 => g_aload0 dX8_set_118 (g_mget fl_X8_32 mg_10 dX8_set_119 (g_iload1 dX8_set_122 (g_iload3 dX8_set_123 (g_mis ma_10 mas_10 dX8_set_124 ?b124_2'' (g_iload4 dX8_set_125 (g_iret rfl dX8_set_127 (Nat.le_of_ble_eq_true rfl) (Nat.le_of_ble_eq_true rfl) ?q127_2''''''))))))) (fun h105 => g_aload0 dX8_set_108 (g_mget fl_X8_29 mg_9 dX8_set_109 (g_iload1 dX8_set_112 (g_iload3 dX8_set_113 (g_mis ma_9 mas_9 dX8_set_114 ?b114_2'' (g_goto (tgt := 125) dX8_set_115 (by decide) (g_iload4 dX8_set_125 (g_iret rfl dX8_set_127 (Nat.le_of_ble_eq_true rfl) (Nat.le_of_ble_eq_true rfl) ?q127_2'''''''))))))))))) (fun h90 => g_aload0 dX8_set_93 (g_mget fl_X8_26 mg_8 dX8_set_94 (g_iload1 dX8_set_97 (g_iload3 dX8_set_98 (g_mis ma_8 mas_8 dX8_set_99 ?b99_2'' (g_goto (tgt := 125) dX8_set_100 (by decide) (g_iload4 dX8_set_125 (g_iret rfl dX8_set_127 (Nat.le_of_ble_eq_true rfl) (Nat.le_of_ble_eq_true rfl) ?q127_2'''''''')))))))))))))))))
      all_goals try omega
      refine hQ _ _ ⟨(h.2.2.1.at (getD_at (by omega))), _, rfl, agF.rf.up 8 _ rfl, h.1, by rw [updA_o (by decide)]; exact h.2.1, ?_, by rw [updA_o (by decide)]; exact h.2.2.2.1, by rw [updA_o (by decide)]; exact h.2.2.2.2.1, by rw [updA_o (by decide)]; exact h.2.2.2.2.2⟩
      rw [updA_s]
      have := h.2.2.1.set x.toInt.toNat z.toInt.toNat
      rw [← ez] at this; exact this
    · rw [if_neg (by omega), if_pos y0] at hQ
      rw [if_neg (by omega), if_neg (by omega)] at c3
      rw [if_pos c3] at hQ
      refine g_iload2 dX8_set_54 (g_if_ne (tgt := 67) dX8_set_55 (by decide) (fun h55 => g_iload2 dX8_set_67 (g_iconst ki_1 dX8_set_68 (g_icmp_ne (tgt := 81) dX8_set_69 (by decide) (fun h69 => g_aload0 dX8_set_81 (g_mget fl_X8_32 mg_10 dX8_set_82 (g_iload1 dX8_set_85 (g_mia ma_10 dX8_set_86 ?b86_3 (g_istore4 dX8_set_87 rfl rfl (g_iload2 dX8_set_89 (g_if_ne (tgt := 103) dX8_set_90 (by decide) (fun h90 => g_iload2 dX8_set_103 (g_iconst ki_1 dX8_set_104 (g_icmp_ne (tgt := 118) dX8_set_105 (by decide) (fun h105 => g_aload0 dX8_set_118 (g_mget fl_X8_32 mg_10 dX8_set_119 (g_iload1 dX8_set_122 (g_iload3 dX8_set_123 (g_mis ma_10 mas_10 dX8_set_124 ?b124_3 (g_iload4 dX8_set_125 (g_iret rfl dX8_set_127 (Nat.le_of_ble_eq_true rfl) (Nat.le_of_ble_eq_true rfl) ?q127_3))))))) (fun h105 => g_aload0 dX8_set_108 (g_mget fl_X8_29 mg_9 dX8_set_109 (g_iload1 dX8_set_112 (g_iload3 dX8_set_113 (g_mis ma_9 mas_9 dX8_set_114 ?b114_3 (g_goto (tgt := 125) dX8_set_115 (by decide) (g_iload4 dX8_set_125 (g_iret rfl dX8_set_127 (Nat.le_of_ble_eq_true rfl) (Nat.le_of_ble_eq_true rfl) ?q127_3'))))))))))) (fun h90 => g_aload0 dX8_set_93 (g_mget fl_X8_26 mg_8 dX8_set_94 (g_iload1 dX8_set_97 (g_iload3 dX8_set_98 (g_mis ma_8 mas_8 dX8_set_99 ?b99_3 (g_goto (tgt := 125) dX8_set_100 (by decide) (g_iload4 dX8_set_125 (g_iret rfl dX8_set_127 (Nat.le_of_ble_eq_true rfl) (Nat.le_of_ble_eq_true rfl) ?q127_3''))))))))))))))) (fun h69 => g_aload0 dX8_set_72 (g_mget fl_X8_29 mg_9 dX8_set_73 (g_iload1 dX8_set_76 (g_mia ma_9 dX8_set_77 ?b77_3 (g_goto (tgt := 87) dX8_set_78 (by decide) (g_istore4 dX8_set_87 rfl rfl (g_iload2 dX8_set_89 (g_if_ne (tgt := 103) dX8_set_90 (by decide) (fun h90 => g_iload2 dX8_set_103 (g_iconst ki_1 dX8_set_104 (g_icmp_ne (tgt := 118) dX8_set_105 (by decide) (fun h105 => g_aload0 dX8_set_118 (g_mget fl_X8_32 mg_10 dX8_set_119 (g_iload1 dX8_set_122 (g_iload3 dX8_set_123 (g_mis ma_10 mas_10 dX8_set_124 ?b124_3' (g_iload4 dX8_set_125 (g_iret rfl dX8_set_127 (Nat.le_of_ble_eq_true rfl) (Nat.le_of_ble_eq_true rfl) ?q127_3'''))))))) (fun h105 => g_aload0 dX8_set_108 (g_mget fl_X8_29 mg_9 dX8_set_109 (g_iload1 dX8_set_112 (g_iload3 dX8_set_113 (g_mis ma_9 mas_9 dX8_set_114 ?b114_3' (g_goto (tgt := 125) dX8_set_115 (by decide) (g_iload4 dX8_set_125 (g_iret rfl dX8_set_127 (Nat.le_of_ble_eq_true rfl) (Nat.le_of_ble_eq_true rfl) ?q127_3''''))))))))))) (fun h90 => g_aload0 dX8_set_93 (g_mget fl_X8_26 mg_8 dX8_set_94 (g_iload1 dX8_set_97 (g_iload3 dX8_set_98 (g_mis ma_8 mas_8 dX8_set_99 ?b99_3' (g_goto (tgt := 125) dX8_set_100 (by decide) (g_iload4 dX8_set_125 (g_iret rfl dX8_set_127 (Nat.le_of_ble_eq_true rfl) (Nat.le_of_ble_eq_true rfl) ?q127_3'''''))))))))))))))))))) (fun h55 => g_aload0 dX8_set_58 (g_mget fl_X8_26 mg_8 dX8_set_59 (g_iload1 dX8_set_62 (g_mia ma_8 dX8_set_63 ?b63_3 (g_goto (tgt := 87) dX8_set_64 (by decide) (g_istore4 dX8_set_87 rfl rfl (g_iload2 dX8_set_89 (g_if_ne (tgt := 103) dX8_set_90 (by decide) (fun h90 => g_iload2 dX8_set_103 (g_iconst ki_1 dX8_set_104 (g_icmp_ne (tgt := 118) dX8_set_105 (by decide) (fun h105 => g_aload0 dX8_set_118 (g_mget fl_X8_32 mg_10 dX8_set_119 (g_iload1 dX8_set_122 (g_iload3 dX8_set_123 (g_mis ma_10 mas_10 dX8_set_124 ?b124_3'' (g_iload4 dX8_set_125 (g_iret rfl dX8_set_127 (Nat.le_of_ble_eq_true rfl) (Nat.le_of_ble_eq_true rfl) ?q127_3''''''))))))) (fun h105 => g_aload0 dX8_set_108 (g_mget fl_X8_29 mg_9 dX8_set_109 (g_iload1 dX8_set_112 (g_iload3 dX8_set_113 (g_mis ma_9 mas_9 dX8_set_114 ?b114_3'' (g_goto (tgt := 125) dX8_set_115 (by decide) (g_iload4 dX8_set_125 (g_iret rfl dX8_set_127 (Nat.le_of_ble_eq_true rfl) (Nat.le_of_ble_eq_true rfl) ?q127_3'''''''))))))))))) (fun h90 => g_aload0 dX8_set_93 (g_mget fl_X8_26 mg_8 dX8_set_94 (g_iload1 dX8_set_97 (g_iload3 dX8_set_98 (g_mis ma_8 mas_8 dX8_set_99 ?b99_3'' (g_goto (tgt := 125) dX8_set_100 (by decide) (g_iload4 dX8_set_125 (g_iret rfl dX8_set_127 (Nat.le_of_ble_eq_true rfl) (Nat.le_of_ble_eq_true rfl) ?q127_3'''''''')))))))))))))))))
      all_goals try omega
      refine hQ _ _ ⟨(h.2.2.2.1.at (getD_at (by omega))), _, rfl, agF.rf.up 9 _ rfl, h.1, by rw [updA_o (by decide)]; exact h.2.1, by rw [updA_o (by decide)]; exact h.2.2.1, ?_, by rw [updA_o (by decide)]; exact h.2.2.2.2.1, by rw [updA_o (by decide)]; exact h.2.2.2.2.2⟩
      rw [updA_s]
      have := h.2.2.2.1.set x.toInt.toNat z.toInt.toNat
      rw [← ez] at this; exact this
    · rw [if_neg (by omega), if_neg (by omega), if_pos y0] at hQ
      rw [if_neg (by omega), if_pos y0] at c3
      rw [if_pos c3] at hQ
      refine g_iload2 dX8_set_54 (g_if_ne (tgt := 67) dX8_set_55 (by decide) (fun h55 => g_iload2 dX8_set_67 (g_iconst ki_1 dX8_set_68 (g_icmp_ne (tgt := 81) dX8_set_69 (by decide) (fun h69 => g_aload0 dX8_set_81 (g_mget fl_X8_32 mg_10 dX8_set_82 (g_iload1 dX8_set_85 (g_mia ma_10 dX8_set_86 ?b86_4 (g_istore4 dX8_set_87 rfl rfl (g_iload2 dX8_set_89 (g_if_ne (tgt := 103) dX8_set_90 (by decide) (fun h90 => g_iload2 dX8_set_103 (g_iconst ki_1 dX8_set_104 (g_icmp_ne (tgt := 118) dX8_set_105 (by decide) (fun h105 => g_aload0 dX8_set_118 (g_mget fl_X8_32 mg_10 dX8_set_119 (g_iload1 dX8_set_122 (g_iload3 dX8_set_123 (g_mis ma_10 mas_10 dX8_set_124 ?b124_4 (g_iload4 dX8_set_125 (g_iret rfl dX8_set_127 (Nat.le_of_ble_eq_true rfl) (Nat.le_of_ble_eq_true rfl) ?q127_4))))))) (fun h105 => g_aload0 dX8_set_108 (g_mget fl_X8_29 mg_9 dX8_set_109 (g_iload1 dX8_set_112 (g_iload3 dX8_set_113 (g_mis ma_9 mas_9 dX8_set_114 ?b114_4 (g_goto (tgt := 125) dX8_set_115 (by decide) (g_iload4 dX8_set_125 (g_iret rfl dX8_set_127 (Nat.le_of_ble_eq_true rfl) (Nat.le_of_ble_eq_true rfl) ?q127_4'))))))))))) (fun h90 => g_aload0 dX8_set_93 (g_mget fl_X8_26 mg_8 dX8_set_94 (g_iload1 dX8_set_97 (g_iload3 dX8_set_98 (g_mis ma_8 mas_8 dX8_set_99 ?b99_4 (g_goto (tgt := 125) dX8_set_100 (by decide) (g_iload4 dX8_set_125 (g_iret rfl dX8_set_127 (Nat.le_of_ble_eq_true rfl) (Nat.le_of_ble_eq_true rfl) ?q127_4''))))))))))))))) (fun h69 => g_aload0 dX8_set_72 (g_mget fl_X8_29 mg_9 dX8_set_73 (g_iload1 dX8_set_76 (g_mia ma_9 dX8_set_77 ?b77_4 (g_goto (tgt := 87) dX8_set_78 (by decide) (g_istore4 dX8_set_87 rfl rfl (g_iload2 dX8_set_89 (g_if_ne (tgt := 103) dX8_set_90 (by decide) (fun h90 => g_iload2 dX8_set_103 (g_iconst ki_1 dX8_set_104 (g_icmp_ne (tgt := 118) dX8_set_105 (by decide) (fun h105 => g_aload0 dX8_set_118 (g_mget fl_X8_32 mg_10 dX8_set_119 (g_iload1 dX8_set_122 (g_iload3 dX8_set_123 (g_mis ma_10 mas_10 dX8_set_124 ?b124_4' (g_iload4 dX8_set_125 (g_iret rfl dX8_set_127 (Nat.le_of_ble_eq_true rfl) (Nat.le_of_ble_eq_true rfl) ?q127_4'''))))))) (fun h105 => g_aload0 dX8_set_108 (g_mget fl_X8_29 mg_9 dX8_set_109 (g_iload1 dX8_set_112 (g_iload3 dX8_set_113 (g_mis ma_9 mas_9 dX8_set_114 ?b114_4' (g_goto (tgt := 125) dX8_set_115 (by decide) (g_iload4 dX8_set_125 (g_iret rfl dX8_set_127 (Nat.le_of_ble_eq_true rfl) (Nat.le_of_ble_eq_true rfl) ?q127_4''''))))))))))) (fun h90 => g_aload0 dX8_set_93 (g_mget fl_X8_26 mg_8 dX8_set_94 (g_iload1 dX8_set_97 (g_iload3 dX8_set_98 (g_mis ma_8 mas_8 dX8_set_99 ?b99_4' (g_goto (tgt := 125) dX8_set_100 (by decide) (g_iload4 dX8_set_125 (g_iret rfl dX8_set_127 (Nat.le_of_ble_eq_true rfl) (Nat.le_of_ble_eq_true rfl) ?q127_4'''''))))))))))))))))))) (fun h55 => g_aload0 dX8_set_58 (g_mget fl_X8_26 mg_8 dX8_set_59 (g_iload1 dX8_set_62 (g_mia ma_8 dX8_set_63 ?b63_4 (g_goto (tgt := 87) dX8_set_64 (by decide) (g_istore4 dX8_set_87 rfl rfl (g_iload2 dX8_set_89 (g_if_ne (tgt := 103) dX8_set_90 (by decide) (fun h90 => g_iload2 dX8_set_103 (g_iconst ki_1 dX8_set_104 (g_icmp_ne (tgt := 118) dX8_set_105 (by decide) (fun h105 => g_aload0 dX8_set_118 (g_mget fl_X8_32 mg_10 dX8_set_119 (g_iload1 dX8_set_122 (g_iload3 dX8_set_123 (g_mis ma_10 mas_10 dX8_set_124 ?b124_4'' (g_iload4 dX8_set_125 (g_iret rfl dX8_set_127 (Nat.le_of_ble_eq_true rfl) (Nat.le_of_ble_eq_true rfl) ?q127_4''''''))))))) (fun h105 => g_aload0 dX8_set_108 (g_mget fl_X8_29 mg_9 dX8_set_109 (g_iload1 dX8_set_112 (g_iload3 dX8_set_113 (g_mis ma_9 mas_9 dX8_set_114 ?b114_4'' (g_goto (tgt := 125) dX8_set_115 (by decide) (g_iload4 dX8_set_125 (g_iret rfl dX8_set_127 (Nat.le_of_ble_eq_true rfl) (Nat.le_of_ble_eq_true rfl) ?q127_4'''''''))))))))))) (fun h90 => g_aload0 dX8_set_93 (g_mget fl_X8_26 mg_8 dX8_set_94 (g_iload1 dX8_set_97 (g_iload3 dX8_set_98 (g_mis ma_8 mas_8 dX8_set_99 ?b99_4'' (g_goto (tgt := 125) dX8_set_100 (by decide) (g_iload4 dX8_set_125 (g_iret rfl dX8_set_127 (Nat.le_of_ble_eq_true rfl) (Nat.le_of_ble_eq_true rfl) ?q127_4'''''''')))))))))))))))))
      all_goals try omega
      refine hQ _ _ ⟨(h.2.2.2.2.1.at (getD_at (by omega))), _, rfl, agF.rf.up 10 _ rfl, h.1, by rw [updA_o (by decide)]; exact h.2.1, by rw [updA_o (by decide)]; exact h.2.2.1, by rw [updA_o (by decide)]; exact h.2.2.2.1, ?_, by rw [updA_o (by decide)]; exact h.2.2.2.2.2⟩
      rw [updA_s]
      have := h.2.2.2.2.1.set x.toInt.toNat z.toInt.toNat
      rw [← ez] at this; exact this
  refine g_aload0 dX8_set_0 (g_iload1 dX8_set_1 (r_X8_isDog hN mv_X8_119 dX8_set_2 (Nat.le_of_ble_eq_true rfl) (Nat.le_of_ble_eq_true rfl) rfl (g_if_eq (tgt := 51) dX8_set_5 (by decide) (fun h5 => ?s51_5) (fun h5 => g_iload2 dX8_set_8 (g_i2l dX8_set_9 (g_lconst kl_0 dX8_set_10 (g_ldc2_w kj_X8_123 dX8_set_11 (r_X8_in hN mv_X8_106 dX8_set_14 (Nat.le_of_ble_eq_true rfl) (Nat.le_of_ble_eq_true rfl) rfl (g_if_eq (tgt := 51) dX8_set_17 (by decide) (fun h17 => ?s51_5') (fun h17 => g_iload3 dX8_set_20 (g_i2l dX8_set_21 (g_iload2 dX8_set_22 (g_if_ne (tgt := 30) dX8_set_23 (by decide) (fun h23 => g_lconst kl_0 dX8_set_30 (g_iload2 dX8_set_31 (g_iconst ki_2 dX8_set_32 (g_icmp_ne (tgt := 42) dX8_set_33 (by decide) (fun h33 => g_ldc2_w kj_X8_125 dX8_set_42 (r_X8_in hN mv_X8_106 dX8_set_45 (Nat.le_of_ble_eq_true rfl) (Nat.le_of_ble_eq_true rfl) rfl (g_if_ne (tgt := 54) dX8_set_48 (by decide) (fun h48 => ?s54_5) (fun h48 => ?s51_5'')))) (fun h33 => g_ldc2_w kj_X8_114 dX8_set_36 (g_goto (tgt := 45) dX8_set_39 (by decide) (r_X8_in hN mv_X8_106 dX8_set_45 (Nat.le_of_ble_eq_true rfl) (Nat.le_of_ble_eq_true rfl) rfl (g_if_ne (tgt := 54) dX8_set_48 (by decide) (fun h48 => ?s54_5') (fun h48 => ?s51_5'''))))))))) (fun h23 => g_lconst kl_1 dX8_set_26 (g_goto (tgt := 31) dX8_set_27 (by decide) (g_iload2 dX8_set_31 (g_iconst ki_2 dX8_set_32 (g_icmp_ne (tgt := 42) dX8_set_33 (by decide) (fun h33 => g_ldc2_w kj_X8_125 dX8_set_42 (r_X8_in hN mv_X8_106 dX8_set_45 (Nat.le_of_ble_eq_true rfl) (Nat.le_of_ble_eq_true rfl) rfl (g_if_ne (tgt := 54) dX8_set_48 (by decide) (fun h48 => ?s54_5'') (fun h48 => ?s51_5'''')))) (fun h33 => g_ldc2_w kj_X8_114 dX8_set_36 (g_goto (tgt := 45) dX8_set_39 (by decide) (r_X8_in hN mv_X8_106 dX8_set_45 (Nat.le_of_ble_eq_true rfl) (Nat.le_of_ble_eq_true rfl) rfl (g_if_ne (tgt := 54) dX8_set_48 (by decide) (fun h48 => ?s54_5''') (fun h48 => ?s51_5''''')))))))))))))))))))))))
  all_goals try simp only [g_biz, Int32.toInt_toInt64, tl_m4611686018427387904, tl_m1, tl_0, tl_1, tl_2, tl_3, tl_4, tl_5, tl_9, tl_10, tl_20, tl_40, tl_43, tl_48, tl_57, tl_60, tl_97, tl_99, tl_122, tl_255] at *
  all_goals first
    | exact good (by omega) (by omega) (by split <;> split <;> omega)
    | skip
  all_goals
    refine badG ?_
    first
      | omega
      | (refine Or.inr (Or.inr ?_); split <;> split <;> omega)
end S72
