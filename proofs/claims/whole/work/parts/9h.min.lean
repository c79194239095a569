/-! the model's constructor -/
section S9h
variable {E : GE} {d q : Nat} {b : Nat → Nat} {v : Nat → Int32} {t : Int64} {f : Nat → Nat → Int32}
theorem sp_at {X j : Nat} (h : X + j ≤ 1000) : (nI X + nI j).toInt = ((X + j : Nat) : Int) := by rw [nI_add, t_nI (by omega)]
set_option maxRecDepth 20000 in
set_option maxHeartbeats 2000000 in
theorem c_X8_spell (hN : g_N E) {X : Nat} (hX : X ≤ 952) (c0 c1 c2 c3 c4 c5 c6 c7 : Int32) : g_Cv E mX8_spell (d + 1) [.ref (b 0), .int (nI X), .int c0, .int c1, .int c2, .int c3, .int c4, .int c5, .int c6, .int c7] (mW E b v t f) (fun w => ∃ f', w = mW E b v t f' ∧ agF [1] f f' ∧ (∀ j, j < 8 → f' 1 (X + j) = [c0, c1, c2, c3, c4, c5, c6, c7].getD j 0) ∧ ∀ p, ¬ (X ≤ p ∧ p < X + 8) → f' 1 p = f 1 p) := by
  refine g_enterV hN.1 (by decide) [some (.ref (b 0)), some (.int (nI X)), some (.int c0), some (.int c1), some (.int c2), some (.int c3), some (.int c4), some (.int c5), some (.int c6), some (.int c7)] rfl (Nat.le_of_ble_eq_true rfl) (fun A Q hQ => ?_)
  have tc1 := tc_1; have tc2 := tc_2; have tc3 := tc_3; have tc4 := tc_4; have tc5 := tc_5; have tc6 := tc_6; have tc7 := tc_7
  have e0 : (nI X).toInt = (X : Int) := t_nI (by omega)
  have e1 : (nI X + 1).toInt = ((X + 1 : Nat) : Int) := sp_at (j := 1) (by omega)
  have e2 : (nI X + 2).toInt = ((X + 2 : Nat) : Int) := sp_at (j := 2) (by omega)
  have e3 : (nI X + 3).toInt = ((X + 3 : Nat) : Int) := sp_at (j := 3) (by omega)
  have e4 : (nI X + 4).toInt = ((X + 4 : Nat) : Int) := sp_at (j := 4) (by omega)
  have e5 : (nI X + 5).toInt = ((X + 5 : Nat) : Int) := sp_at (j := 5) (by omega)
  have e6 : (nI X + 6).toInt = ((X + 6 : Nat) : Int) := sp_at (j := 6) (by omega)
  have e7 : (nI X + 7).toInt = ((X + 7 : Nat) : Int) := sp_at (j := 7) (by omega)
  refine g_aload0 dX8_spell_0 (g_mget fl_X8_13 mg_1 dX8_spell_1 (g_iload1 dX8_spell_4 (g_iload2 dX8_spell_5 (g_mis ma_1 mas_1 dX8_spell_6 ?b6 (g_aload0 dX8_spell_7 (g_mget fl_X8_13 mg_1 dX8_spell_8 (g_iload1 dX8_spell_11 (g_iconst ki_1 dX8_spell_12 (g_iadd dX8_spell_13 (g_iload3 dX8_spell_14 (g_mis ma_1 mas_1 dX8_spell_15 ?b15 (g_aload0 dX8_spell_16 (g_mget fl_X8_13 mg_1 dX8_spell_17 (g_iload1 dX8_spell_20 (g_iconst ki_2 dX8_spell_21 (g_iadd dX8_spell_22 (g_iload4 dX8_spell_23 (g_mis ma_1 mas_1 dX8_spell_25 ?b25 (g_aload0 dX8_spell_26 (g_mget fl_X8_13 mg_1 dX8_spell_27 (g_iload1 dX8_spell_30 (g_iconst ki_3 dX8_spell_31 (g_iadd dX8_spell_32 (g_iload5 dX8_spell_33 (g_mis ma_1 mas_1 dX8_spell_35 ?b35 (g_aload0 dX8_spell_36 (g_mget fl_X8_13 mg_1 dX8_spell_37 (g_iload1 dX8_spell_40 (g_iconst ki_4 dX8_spell_41 (g_iadd dX8_spell_42 (g_iload6 dX8_spell_43 (g_mis ma_1 mas_1 dX8_spell_45 ?b45 (g_aload0 dX8_spell_46 (g_mget fl_X8_13 mg_1 dX8_spell_47 (g_iload1 dX8_spell_50 (g_iconst ki_5 dX8_spell_51 (g_iadd dX8_spell_52 (g_iload7 dX8_spell_53 (g_mis ma_1 mas_1 dX8_spell_55 ?b55 (g_aload0 dX8_spell_56 (g_mget fl_X8_13 mg_1 dX8_spell_57 (g_iload1 dX8_spell_60 (g_bipush kb_6 dX8_spell_61 (g_iadd dX8_spell_63 (g_iload8 dX8_spell_64 (g_mis ma_1 mas_1 dX8_spell_66 ?b66 (g_aload0 dX8_spell_67 (g_mget fl_X8_13 mg_1 dX8_spell_68 (g_iload1 dX8_spell_71 (g_bipush kb_7 dX8_spell_72 (g_iadd dX8_spell_74 (g_iload9 dX8_spell_75 (g_mis ma_1 mas_1 dX8_spell_77 ?b77 (g_vret rfl dX8_spell_78 (Nat.le_of_ble_eq_true rfl) (Nat.le_of_ble_eq_true rfl) ?q78))))))))))))))))))))))))))))))))))))))))))))))))))))))
  case q78 =>
    simp only [e0, e1, e2, e3, e4, e5, e6, e7, Int.toNat_natCast]
    refine hQ _ ⟨_, rfl, ?_, ?_, ?_⟩
    · exact (((((((agF.rf.up 1 _ rfl).up 1 _ rfl).up 1 _ rfl).up 1 _ rfl).up 1 _ rfl).up 1 _ rfl).up 1 _ rfl).up 1 _ rfl
    · intro j hj
      simp only [updA_s]
      match j, hj with
      | 0, _ => rw [upd_o (by omega), upd_o (by omega), upd_o (by omega), upd_o (by omega), upd_o (by omega), upd_o (by omega), upd_o (by omega)]; exact upd_s
      | 1, _ => rw [upd_o (by omega), upd_o (by omega), upd_o (by omega), upd_o (by omega), upd_o (by omega), upd_o (by omega)]; exact upd_s
      | 2, _ => rw [upd_o (by omega), upd_o (by omega), upd_o (by omega), upd_o (by omega), upd_o (by omega)]; exact upd_s
      | 3, _ => rw [upd_o (by omega), upd_o (by omega), upd_o (by omega), upd_o (by omega)]; exact upd_s
      | 4, _ => rw [upd_o (by omega), upd_o (by omega), upd_o (by omega)]; exact upd_s
      | 5, _ => rw [upd_o (by omega), upd_o (by omega)]; exact upd_s
      | 6, _ => rw [upd_o (by omega)]; exact upd_s
      | 7, _ => exact upd_s
      | j + 8, h => exact absurd h (by omega)
    · intro p hp
      simp only [updA_s]
      rw [upd_o (by omega), upd_o (by omega), upd_o (by omega), upd_o (by omega), upd_o (by omega), upd_o (by omega), upd_o (by omega), upd_o (by omega)]
  all_goals exact ⟨by omega, by show _ < (960 : Int); omega⟩
end S9h
