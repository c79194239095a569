/-! the model: told -/
theorem sTold_bad {D : Dg} {x k : Int32} (h : ¬ (0 ≤ x.toInt ∧ x.toInt < D.1.length) ∨ ¬ (0 ≤ k.toInt ∧ k.toInt ≤ 5)) : sTold D x k = -2 := by
  unfold sTold
  by_cases c : 0 ≤ x.toInt ∧ x.toInt < D.1.length
  · rw [if_neg (fun q => q c), if_neg (by omega), if_neg (by omega), if_neg (by omega), if_neg (by omega), if_neg (by omega), if_neg (by omega)]
  · rw [if_pos c]
section S9n
variable {E : GE} {d : Nat} {b : Nat → Nat} {v : Nat → Int32} {t : Int64} {f : Nat → Nat → Int32} {D : Dg}
set_option maxRecDepth 20000 in
set_option maxHeartbeats 2000000 in
theorem c_X8_told (hN : g_N E) (hD : dgOK D) (hM : MD v f D) (x k : Int32) : g_Ci E mX8_told (d + 4) [.ref (b 0), .int x, .int k] (mW E b v t f) (fun z w => z.toInt = sTold D x k ∧ w = mW E b v t f) := by
  obtain ⟨hn, l1, l2, l3, l4, b1, b2, b3, b4, b5, hnd⟩ := id hD
  obtain ⟨n0, n1, n2⟩ := hM.n1 hn
  by_cases c : 0 ≤ x.toInt ∧ x.toInt < D.1.length
  · obtain ⟨y, hy, hy6⟩ : ∃ y : Nat, x = nI y ∧ y < D.1.length := ⟨x.toInt.toNat, t_of c.1, by omega⟩
    subst hy
    have ey := t_nI (n := y) (by omega)
    refine g_enterI hN.1 (by decide) [some (.ref (b 0)), some (.int (nI y)), some (.int k)] rfl (Nat.le_of_ble_eq_true rfl) (fun A Q hQ => ?_)
    have tcm2 := tc_m2; have tc1 := tc_1; have tc3 := tc_3; have tc4 := tc_4
    have fin : ∀ {l : List Nat} {f : Nat → Int32} {b : Nat}, Lst l f → l.length = D.1.length → (∀ y ∈ l, y ≤ b) → b < 1000 → (f y).toInt = l.getD y 0 := by
      intro l f b hl hlen hb hb1
      have hg := getD_at (l := l) (i := y) (by omega)
      have := hb _ (List.mem_of_getElem? hg)
      rw [hl.at hg, t_nI (by omega)]
    have hm := dg_mem hD hy6
    have hpl := List.idxOf_lt_length_of_mem hm
    have sv : sTold D (nI y) k = if k.toInt = 0 then (D.2.1.getD y 0 : Int) else if k.toInt = 1 then (D.2.2.1.getD y 0 : Int) else if k.toInt = 2 then (D.2.2.2.1.getD y 0 : Int) else if k.toInt = 3 then (D.1.getD y 0 : Int) else if k.toInt = 4 then (plN D y : Int) else if k.toInt = 5 then plsN D y (plN D y) else -2 := by
      unfold sTold
      rw [if_neg (fun q => q c), ey, Int.toNat_natCast]
    refine g_aload0 dX8_told_0 (g_iload1 dX8_told_1 (r_X8_isDog hN mv_X8_119 dX8_told_2 (Nat.le_of_ble_eq_true rfl) (Nat.le_of_ble_eq_true rfl) rfl (g_if_eq (tgt := 20) dX8_told_5 (by decide) (fun h5 => g_bipush kb_m2 dX8_told_20 (g_iret rfl dX8_told_22 (Nat.le_of_ble_eq_true rfl) (Nat.le_of_ble_eq_true rfl) ?q22)) (fun h5 => g_iload2 dX8_told_8 (g_i2l dX8_told_9 (g_lconst kl_0 dX8_told_10 (g_ldc2_w kj_X8_110 dX8_told_11 (r_X8_in hN mv_X8_106 dX8_told_14 (Nat.le_of_ble_eq_true rfl) (Nat.le_of_ble_eq_true rfl) rfl (g_if_ne (tgt := 23) dX8_told_17 (by decide) (fun h17 => g_iload2 dX8_told_23 (g_iconst ki_3 dX8_told_24 (g_icmp_ge (tgt := 62) dX8_told_25 (by decide) (fun h25 => g_iload2 dX8_told_62 (g_iconst ki_3 dX8_told_63 (g_icmp_ne (tgt := 76) dX8_told_64 (by decide) (fun h64 => g_iload2 dX8_told_76 (g_iconst ki_4 dX8_told_77 (g_icmp_ne (tgt := 89) dX8_told_78 (by decide) (fun h78 => g_aload0 dX8_told_89 (g_iload1 dX8_told_90 (g_aload0 dX8_told_91 (g_iload1 dX8_told_92 (?c93))))) (fun h78 => g_aload0 dX8_told_81 (g_iload1 dX8_told_82 (?c83)))))) (fun h64 => g_aload0 dX8_told_67 (g_mget fl_X8_23 mg_7 dX8_told_68 (g_iload1 dX8_told_71 (g_mia ma_7 dX8_told_72 ?b72 (g_goto (tgt := 99) dX8_told_73 (by decide) (g_iret rfl dX8_told_99 (Nat.le_of_ble_eq_true rfl) (Nat.le_of_ble_eq_true rfl) ?q99))))))))) (fun h25 => g_iload2 dX8_told_28 (g_if_ne (tgt := 41) dX8_told_29 (by decide) (fun h29 => g_iload2 dX8_told_41 (g_iconst ki_1 dX8_told_42 (g_icmp_ne (tgt := 55) dX8_told_43 (by decide) (fun h43 => g_aload0 dX8_told_55 (g_mget fl_X8_32 mg_10 dX8_told_56 (g_iload1 dX8_told_59 (g_mia ma_10 dX8_told_60 ?b60 (g_iret rfl dX8_told_61 (Nat.le_of_ble_eq_true rfl) (Nat.le_of_ble_eq_true rfl) ?q61))))) (fun h43 => g_aload0 dX8_told_46 (g_mget fl_X8_29 mg_9 dX8_told_47 (g_iload1 dX8_told_50 (g_mia ma_9 dX8_told_51 ?b51 (g_goto (tgt := 61) dX8_told_52 (by decide) (g_iret rfl dX8_told_61 (Nat.le_of_ble_eq_true rfl) (Nat.le_of_ble_eq_true rfl) ?q61'))))))))) (fun h29 => g_aload0 dX8_told_32 (g_mget fl_X8_26 mg_8 dX8_told_33 (g_iload1 dX8_told_36 (g_mia ma_8 dX8_told_37 ?b37 (g_goto (tgt := 61) dX8_told_38 (by decide) (g_iret rfl dX8_told_61 (Nat.le_of_ble_eq_true rfl) (Nat.le_of_ble_eq_true rfl) ?q61''))))))))))) (fun h17 => g_bipush kb_m2 dX8_told_20 (g_iret rfl dX8_told_22 (Nat.le_of_ble_eq_true rfl) (Nat.le_of_ble_eq_true rfl) ?q22')))))))))))
    all_goals try simp only [g_biz, Int32.toInt_toInt64, tl_m4611686018427387904, tl_m1, tl_0, tl_1, tl_2, tl_3, tl_4, tl_5, tl_9, tl_10, tl_20, tl_40, tl_43, tl_48, tl_57, tl_60, tl_97, tl_99, tl_122, tl_255] at *
    case q22 => omega
    case q22' => exact hQ _ _ ⟨by rw [sTold_bad (Or.inr (by omega))]; rfl, rfl⟩
    all_goals try rw [ey, Int.toNat_natCast]
    case q61'' => exact hQ _ _ ⟨by rw [sv, if_pos (by omega)]; exact fin hM.2.2.1 l1 (fun y hy => (b2 y hy).2) (by omega), rfl⟩
    case q61' => exact hQ _ _ ⟨by rw [sv, if_neg (by omega), if_pos (by omega)]; exact fin hM.2.2.2.1 l2 b3 (by omega), rfl⟩
    case q61 => exact hQ _ _ ⟨by rw [sv, if_neg (by omega), if_neg (by omega), if_pos (by omega)]; exact fin hM.2.2.2.2.1 l3 b4 (by omega), rfl⟩
    case q99 => exact hQ _ _ ⟨by rw [sv, if_neg (by omega), if_neg (by omega), if_neg (by omega), if_pos (by omega)]; exact fin hM.2.1 rfl b1 (by omega), rfl⟩
    case c83 =>
      refine g_V1i dX8_told_83 mv_X8_127 0 rfl rfl rfl (Nat.le_of_ble_eq_true rfl) (Nat.le_of_ble_eq_true rfl) (c_X8_placeOf hN hD hM hm) (fun z1_ w1 hq => ?_)
      obtain ⟨rfl, rfl⟩ := hq
      refine g_goto (tgt := 99) dX8_told_86 (by decide) (g_iret rfl dX8_told_99 (Nat.le_of_ble_eq_true rfl) (Nat.le_of_ble_eq_true rfl) ?q99_2)
      refine hQ _ _ ⟨?_, rfl⟩
      rw [sv, if_neg (by omega), if_neg (by omega), if_neg (by omega), if_neg (by omega), if_pos (by omega), t_nI (by unfold plN; omega)]
    case c93 =>
      refine g_V1i dX8_told_93 mv_X8_127 0 rfl rfl rfl (Nat.le_of_ble_eq_true rfl) (Nat.le_of_ble_eq_true rfl) (c_X8_placeOf hN hD hM hm) (fun z1_ w1 hq => ?_)
      obtain ⟨rfl, rfl⟩ := hq
      refine g_V2i dX8_told_96 mv_X8_131 0 rfl rfl rfl (Nat.le_of_ble_eq_true rfl) (Nat.le_of_ble_eq_true rfl) (c_X8_pulls hN hD hM (getD_at (l := D.1) (i := y) (by omega)) (getD_at (l := D.2.1) (i := y) (by omega)) (getD_at (l := D.2.2.1) (i := y) (by omega)) (q := plN D y) (by unfold plN; omega)) (fun z1_ w1 hq => ?_)
      obtain ⟨h1, rfl⟩ := hq
      refine g_iret rfl dX8_told_99 (Nat.le_of_ble_eq_true rfl) (Nat.le_of_ble_eq_true rfl) ?q99_3
      exact hQ _ _ ⟨by rw [sv, if_neg (by omega), if_neg (by omega), if_neg (by omega), if_neg (by omega), if_neg (by omega), if_pos (by omega)]; exact h1, rfl⟩
    all_goals exact ⟨by omega, by show _ < (6 : Int); omega⟩
  ·
    refine g_enterI hN.1 (by decide) [some (.ref (b 0)), some (.int x), some (.int k)] rfl (Nat.le_of_ble_eq_true rfl) (fun A Q hQ => ?_)
    have tcm2 := tc_m2; have tc1 := tc_1; have tc3 := tc_3; have tc4 := tc_4
    refine g_aload0 dX8_told_0 (g_iload1 dX8_told_1 (r_X8_isDog hN mv_X8_119 dX8_told_2 (Nat.le_of_ble_eq_true rfl) (Nat.le_of_ble_eq_true rfl) rfl (g_if_eq (tgt := 20) dX8_told_5 (by decide) (fun h5 => g_bipush kb_m2 dX8_told_20 (g_iret rfl dX8_told_22 (Nat.le_of_ble_eq_true rfl) (Nat.le_of_ble_eq_true rfl) ?q22_4)) (fun h5 => g_iload2 dX8_told_8 (g_i2l dX8_told_9 (g_lconst kl_0 dX8_told_10 (g_ldc2_w kj_X8_110 dX8_told_11 (r_X8_in hN mv_X8_106 dX8_told_14 (Nat.le_of_ble_eq_true rfl) (Nat.le_of_ble_eq_true rfl) rfl (g_if_ne (tgt := 23) dX8_told_17 (by decide) (fun h17 => ?s23_4) (fun h17 => g_bipush kb_m2 dX8_told_20 (g_iret rfl dX8_told_22 (Nat.le_of_ble_eq_true rfl) (Nat.le_of_ble_eq_true rfl) ?q22_4')))))))))))
    all_goals try simp only [g_biz, Int32.toInt_toInt64, tl_m4611686018427387904, tl_m1, tl_0, tl_1, tl_2, tl_3, tl_4, tl_5, tl_9, tl_10, tl_20, tl_40, tl_43, tl_48, tl_57, tl_60, tl_97, tl_99, tl_122, tl_255] at *
    case q22_4 => exact hQ _ _ ⟨by rw [sTold_bad (Or.inl c)]; rfl, rfl⟩
    all_goals omega
end S9n
