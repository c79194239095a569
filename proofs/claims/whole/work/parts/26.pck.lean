theorem Lst_cpf {l : List Nat} {f f2 : Nat → Int32} {n : Nat} (h : Lst l f2) (hl : l.length ≤ n) : Lst l (cpf f f2 n) := by
  intro i x hi
  have := (List.getElem?_eq_some_iff.mp hi).1
  unfold cpf
  rw [if_pos (by omega)]
  exact h i x hi
section S26
variable {E : GE} {d : Nat} {a b : Nat → Nat} {k k2 : Nat} {D D2 : Dg} {r r2 : Nat} {L L2 : List Cr} {w1 w2 w3 w4 : va_W}
set_option maxRecDepth 20000 in
set_option maxHeartbeats 2000000 in
theorem c_pckBecome (hN : g_N E) (hw1 : Pck E a k D r w1) (hw2 : Row E a (k + 6) L w2) (hw3 : Pck E b k2 D2 r2 w3) (hw4 : Row E b (k2 + 6) L2 w4) : g_Cv E mX1_become (d + 3) [.ref (a k), .ref (b k2)] (w1 ++ (w2 ++ (w3 ++ w4))) (fun w' => ∃ w1' w2', Pck E a k D2 r2 w1' ∧ Row E a (k + 6) L2 w2' ∧ w' = w1' ++ (w2' ++ (w3 ++ w4))) := by
  have hw2' := hw2
  have hw4' := hw4
  obtain ⟨hD, kd, pc, nb, hs, od, rfl, h1, h2, h3, h4, h5⟩ := hw1
  obtain ⟨hD2, kd2, pc2, nb2, hs2, od2, rfl, h12, h22, h32, h42, h52⟩ := hw3
  obtain ⟨hn, pl, ov, on, ot, be, rfl, hL⟩ := hw2
  obtain ⟨hn2, pl2, ov2, on2, ot2, be2, rfl, hL2⟩ := hw4
  refine g_enterV hN.1 (by decide) [some (.ref (a k)), some (.ref (b k2)), none] rfl (Nat.le_of_ble_eq_true rfl) (fun A Q hQ => ?_)
  have tc0 := tc_0; have tc1 := tc_1; have tc6 := tc_6
  have loop : ∀ t i, i + t = 6 → G E mX1_become (d + 3) 0 0 A Q 0 0 2 [some (.ref (a k)), some (.ref (b k2)), some (.int (nI i))] [] (packW E a k (cpf kd kd2 i) (cpf pc pc2 i) (cpf nb nb2 i) (cpf hs hs2 i) (cpf od od2 i) (nI D.1.length) (nI r) ++ (rowW E a (k + 6) pl ov on ot be (nI L.length) ++ (packW E b k2 kd2 pc2 nb2 hs2 od2 (nI D2.1.length) (nI r2) ++ rowW E b (k2 + 6) pl2 ov2 on2 ot2 be2 (nI L2.length)))) := by
    intro t
    induction t with
    | zero =>
      intro i hi
      have e2 := t_nI (n := i) (by omega)
      refine g_iload2 dX1_become_2 (g_bipush kb_6 dX1_become_3 (g_icmp_ge (tgt := 74) dX1_become_5 (by decide) (fun h5 => g_aload0 dX1_become_74 (g_get fl_X1_30 0 rfl rfl dX1_become_75 (g_aload1 dX1_become_78 (g_get fl_X1_30 12 rfl rfl dX1_become_79 (?c82))))) (fun h5 => ?s8)))
      case s8 => omega
      case c82 =>
        refine g_sub (ws' := (rowW E a (k + 6) pl ov on ot be (nI L.length) ++ rowW E b (k2 + 6) pl2 ov2 on2 ot2 be2 (nI L2.length)) ++ (packW E a k (cpf kd kd2 i) (cpf pc pc2 i) (cpf nb nb2 i) (cpf hs hs2 i) (cpf od od2 i) (nI D.1.length) (nI r) ++ packW E b k2 kd2 pc2 nb2 hs2 od2 (nI D2.1.length) (nI r2))) [6, 7, 8, 9, 10, 11, 18, 19, 20, 21, 22, 23, 0, 1, 2, 3, 4, 5, 12, 13, 14, 15, 16, 17] (by decide) rfl ?_
        refine g_V1v dX1_become_82 mv_X1_41 0 rfl rfl rfl (Nat.le_of_ble_eq_true rfl) (Nat.le_of_ble_eq_true rfl) ((c_rowBecome hN hw2' hw4').frame (X := [])) (fun w1 hq => ?_)
        obtain ⟨w5, ⟨w6, hw6, rfl⟩, rfl⟩ := hq
        have hw6' := hw6
        obtain ⟨hn6, pl6, ov6, on6, ot6, be6, rfl, hL6⟩ := hw6
        refine g_sub (ws' := packW E a k (cpf kd kd2 i) (cpf pc pc2 i) (cpf nb nb2 i) (cpf hs hs2 i) (cpf od od2 i) (nI D.1.length) (nI r) ++ (rowW E a (k + 6) pl6 ov6 on6 ot6 be6 (nI L2.length) ++ (packW E b k2 kd2 pc2 nb2 hs2 od2 (nI D2.1.length) (nI r2) ++ rowW E b (k2 + 6) pl2 ov2 on2 ot2 be2 (nI L2.length)))) [12, 13, 14, 15, 16, 17, 0, 1, 2, 3, 4, 5, 18, 19, 20, 21, 22, 23, 6, 7, 8, 9, 10, 11] (by decide) rfl ?_
        refine g_aload0 dX1_become_85 (g_aload1 dX1_become_86 (g_get fl_X1_34 12 rfl rfl dX1_become_87 (g_put fl_X1_34 fp_1_6 0 rfl rfl rfl (Nat.le_of_ble_eq_true rfl) dX1_become_90 (g_aload0 dX1_become_93 (g_aload1 dX1_become_94 (g_get fl_X1_38 12 rfl rfl dX1_become_95 (g_put fl_X1_38 fp_1_7 0 rfl rfl rfl (Nat.le_of_ble_eq_true rfl) dX1_become_98 (g_vret rfl dX1_become_101 (Nat.le_of_ble_eq_true rfl) (Nat.le_of_ble_eq_true rfl) ?q101_2))))))))
        refine hQ _ ⟨_, _, Pck.mk (kd := cpf kd kd2 i) (pc := cpf pc pc2 i) (nb := cpf nb nb2 i) (hs := cpf hs hs2 i) (od := cpf od od2 i) rfl rfl rfl hD2 ⟨?_, ?_, ?_, ?_, ?_⟩, hw6', rfl⟩
        all_goals obtain ⟨q0, q1, q2, q3, q4, -⟩ := hD2
        · exact Lst_cpf h12 (by omega)
        · exact Lst_cpf h22 (by omega)
        · exact Lst_cpf h32 (by omega)
        · exact Lst_cpf h42 (by omega)
        · exact Lst_cpf h52 (by omega)
    | succ t ih =>
      intro i hi
      have e2 := t_nI (n := i) (by omega)
      refine g_iload2 dX1_become_2 (g_bipush kb_6 dX1_become_3 (g_icmp_ge (tgt := 74) dX1_become_5 (by decide) (fun h5 => ?s74_3) (fun h5 => g_aload0 dX1_become_8 (g_get fl_X1_9 0 rfl rfl dX1_become_9 (g_iload2 dX1_become_12 (g_aload1 dX1_become_13 (g_get fl_X1_9 12 rfl rfl dX1_become_14 (g_iload2 dX1_become_17 (g_iaload 13 rfl dX1_become_18 ?b18_3 (g_iastore 1 rfl dX1_become_19 ?b19_3 (g_aload0 dX1_become_20 (g_get fl_X1_15 0 rfl rfl dX1_become_21 (g_iload2 dX1_become_24 (g_aload1 dX1_become_25 (g_get fl_X1_15 12 rfl rfl dX1_become_26 (g_iload2 dX1_become_29 (g_iaload 14 rfl dX1_become_30 ?b30_3 (g_iastore 2 rfl dX1_become_31 ?b31_3 (g_aload0 dX1_become_32 (g_get fl_X1_18 0 rfl rfl dX1_become_33 (g_iload2 dX1_become_36 (g_aload1 dX1_become_37 (g_get fl_X1_18 12 rfl rfl dX1_become_38 (g_iload2 dX1_become_41 (g_iaload 15 rfl dX1_become_42 ?b42_3 (g_iastore 3 rfl dX1_become_43 ?b43_3 (g_aload0 dX1_become_44 (g_get fl_X1_21 0 rfl rfl dX1_become_45 (g_iload2 dX1_become_48 (g_aload1 dX1_become_49 (g_get fl_X1_21 12 rfl rfl dX1_become_50 (g_iload2 dX1_become_53 (g_iaload 16 rfl dX1_become_54 ?b54_3 (g_iastore 4 rfl dX1_become_55 ?b55_3 (g_aload0 dX1_become_56 (g_get fl_X1_24 0 rfl rfl dX1_become_57 (g_iload2 dX1_become_60 (g_aload1 dX1_become_61 (g_get fl_X1_24 12 rfl rfl dX1_become_62 (g_iload2 dX1_become_65 (g_iaload 17 rfl dX1_become_66 ?b66_3 (g_iastore 5 rfl dX1_become_67 ?b67_3 (g_iinc2 ki_1 dX1_become_68 rfl rfl (g_goto (tgt := 2) dX1_become_71 (by decide) (?s2_3)))))))))))))))))))))))))))))))))))))))))))))
      case s74_3 => omega
      case s2_3 =>
        rw [e2, Int.toNat_natCast]
        dsimp only [List.set, List.cons_append, List.nil_append]
        rw [cpf_s, cpf_s, cpf_s, cpf_s, cpf_s, nI_1]
        exact ih (i + 1) (by omega)
      all_goals omega
  refine g_iconst ki_0 dX1_become_0 (g_istore2 dX1_become_1 rfl rfl (?s2_4))
  have := loop 6 0 rfl
  simp only [cpf_0] at this
  exact this
end S26
