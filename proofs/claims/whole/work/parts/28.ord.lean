theorem extF_le (n : Nat) (cst : List Nat → Nat → Nat) : ∀ (r : Nat) (l : List Nat) (sum : Nat) (st : Nat × List Nat), (extF n cst r l sum st).1 ≤ st.1
  | 0, l, sum, st => by
    unfold extF
    by_cases h : st.1 ≤ sum
    · rw [if_pos h]; exact Nat.le_refl _
    · rw [if_neg h]; show sum ≤ st.1; omega
  | r + 1, l, sum, st => by
    unfold extF
    by_cases h : st.1 ≤ sum
    · rw [if_pos h]; exact Nat.le_refl _
    · rw [if_neg h]
      have key : ∀ (xs : List Nat) (s : Nat × List Nat), (xs.foldl (fun st x => if x ∈ l then st else extF n cst r (l ++ [x]) (sum + cst l x) st) s).1 ≤ s.1 := by
        intro xs
        induction xs with
        | nil => intro s; exact Nat.le_refl _
        | cons x xs ih =>
          intro s
          rw [List.foldl_cons]
          refine Nat.le_trans (ih _) ?_
          by_cases hx : x ∈ l
          · rw [if_pos hx]; exact Nat.le_refl _
          · rw [if_neg hx]; exact extF_le n cst r _ _ _
      exact key _ _
section S28
variable {E : GE} {d : Nat} {a : Nat → Nat} {k : Nat} {en pr : Nat → Int32} {n : Nat} {le : Int32}
set_option maxRecDepth 20000 in
set_option maxHeartbeats 2000000 in
theorem c_extend (hN : g_N E) {pP : Nat → Nat → Nat → Nat} {eP : Nat → Nat} (hn : n ≤ 6) (hpr : prIs n pP eP en pr) : ∀ (r : Nat) (l : List Nat) (sum : Nat) (st : Nat × List Nat) (fd tr : Nat → Int32), l.length + r = n → (∀ y ∈ l, y < n) → sum ≤ 198 * l.length → st.1 < 2147483648 → Lst l tr → Lst st.2 fd →
    g_Cv E mX0_extend (d + r + 3) [.ref (a k), .int (nI l.length), .int (nI (bset l)), .int (nI sum)] (ordW E a k en fd pr tr (nI n) (nI st.1)) (fun w => ∃ fd' tr', w = ordW E a k en fd' pr tr' (nI n) (nI (extF n (cstN n pP eP) r l sum st).1) ∧ Lst l tr' ∧ Lst (extF n (cstN n pP eP) r l sum st).2 fd') := by
  intro r
  induction r with
  | zero =>
    intro l sum st fd tr hl hll hsum hst htr hfd
    refine g_enterV hN.1 (by decide) [some (.ref (a k)), some (.int (nI l.length)), some (.int (nI (bset l))), some (.int (nI sum)), none] rfl (Nat.le_of_ble_eq_true rfl) (fun A Q hQ => ?_)
    have tc0 := tc_0; have tc1 := tc_1
    have e0 := t_nI (n := n) (by omega)
    have e1 := t_nI (n := st.1) hst
    have e2 := t_nI (n := sum) (by omega)
    have e3 := t_nI (n := l.length) (by omega)
    unfold extF at hQ
    have loop : ∀ t i, i + t = n → ¬ st.1 ≤ sum → G E mX0_extend (d + 0 + 3) 0 0 A Q 0 0 25 [some (.ref (a k)), some (.int (nI l.length)), some (.int (nI (bset l))), some (.int (nI sum)), some (.int (nI i))] [] (ordW E a k en (cpf fd tr i) pr tr (nI n) (nI sum)) := by
      intro t
      induction t with
      | zero =>
        intro i hi hlt
        rw [if_neg hlt] at hQ
        have e4 := t_nI (n := i) (by omega)
        refine g_iload4 dX0_extend_25 (g_aload0 dX0_extend_27 (g_get fl_X0_24 0 rfl rfl dX0_extend_28 (g_icmp_ge (tgt := 54) dX0_extend_31 (by decide) (fun h31 => g_vret rfl dX0_extend_54 (Nat.le_of_ble_eq_true rfl) (Nat.le_of_ble_eq_true rfl) ?q54) (fun h31 => ?s34))))
        case s34 => omega
        case q54 =>
          exact hQ _ ⟨_, _, rfl, htr, Lst_cpf htr (by show l.length ≤ i; omega)⟩
      | succ t ih =>
        intro i hi hlt
        have e4 := t_nI (n := i) (by omega)
        refine g_iload4 dX0_extend_25 (g_aload0 dX0_extend_27 (g_get fl_X0_24 0 rfl rfl dX0_extend_28 (g_icmp_ge (tgt := 54) dX0_extend_31 (by decide) (fun h31 => g_vret rfl dX0_extend_54 (Nat.le_of_ble_eq_true rfl) (Nat.le_of_ble_eq_true rfl) ?q54_2) (fun h31 => g_aload0 dX0_extend_34 (g_get fl_X0_15 0 rfl rfl dX0_extend_35 (g_iload4 dX0_extend_38 (g_aload0 dX0_extend_40 (g_get fl_X0_21 0 rfl rfl dX0_extend_41 (g_iload4 dX0_extend_44 (g_iaload 4 rfl dX0_extend_46 ?b46_2 (g_iastore 2 rfl dX0_extend_47 ?b47_2 (g_iinc4 ki_1 dX0_extend_48 rfl rfl (g_goto (tgt := 25) dX0_extend_51 (by decide) (?s25_2))))))))))))))
        case q54_2 => omega
        case s25_2 =>
          rw [e4, Int.toNat_natCast]
          dsimp only [List.set]
          rw [cpf_s, nI_1]
          exact ih (i + 1) (by omega) hlt
        all_goals omega
    refine g_iload3 dX0_extend_0 (g_aload0 dX0_extend_1 (g_get fl_X0_28 0 rfl rfl dX0_extend_2 (g_icmp_lt (tgt := 9) dX0_extend_5 (by decide) (fun h5 => g_iload1 dX0_extend_9 (g_aload0 dX0_extend_10 (g_get fl_X0_24 0 rfl rfl dX0_extend_11 (g_icmp_lt (tgt := 55) dX0_extend_14 (by decide) (fun h14 => ?s55_3) (fun h14 => g_aload0 dX0_extend_17 (g_iload3 dX0_extend_18 (g_put fl_X0_28 fp_0_5 0 rfl rfl rfl (Nat.le_of_ble_eq_true rfl) dX0_extend_19 (g_iconst ki_0 dX0_extend_22 (g_istore4 dX0_extend_23 rfl rfl (?s25_3)))))))))) (fun h5 => g_vret rfl dX0_extend_8 (Nat.le_of_ble_eq_true rfl) (Nat.le_of_ble_eq_true rfl) ?q8_3))))
    case q8_3 =>
      rw [if_pos (by omega)] at hQ
      exact hQ _ ⟨_, _, rfl, htr, hfd⟩
    case s55_3 => omega
    case s25_3 =>
      have := loop n 0 (by omega) (by omega)
      rw [cpf_0] at this
      exact this
  | succ r ih =>
    intro l sum st fd tr hl hll hsum hst htr hfd
    refine g_enterV hN.1 (by decide) [some (.ref (a k)), some (.int (nI l.length)), some (.int (nI (bset l))), some (.int (nI sum)), none] rfl (Nat.le_of_ble_eq_true rfl) (fun A Q hQ => ?_)
    have tc0 := tc_0; have tc1 := tc_1
    have e0 := t_nI (n := n) (by omega)
    have e1 := t_nI (n := st.1) hst
    have e2 := t_nI (n := sum) (by omega)
    have e3 := t_nI (n := l.length) (by omega)
    have e3' : nI l.length + 1 = nI (l.length + 1) := nI_1 _
    unfold extF at hQ
    have loop : ∀ t i s fd tr, i + t = n → ¬ st.1 ≤ sum → s = (List.range i).foldl (fun st x => if x ∈ l then st else extF n (cstN n pP eP) r (l ++ [x]) (sum + cstN n pP eP l x) st) st → Lst l tr → Lst s.2 fd → s.1 ≤ st.1 → G E mX0_extend (d + (r + 1) + 3) 0 0 A Q 0 0 58 [some (.ref (a k)), some (.int (nI l.length)), some (.int (nI (bset l))), some (.int (nI sum)), some (.int (nI i))] [] (ordW E a k en fd pr tr (nI n) (nI s.1)) := by
      intro t
      induction t with
      | zero =>
        intro i s fd tr hi hlt hs htr hfd hle
        have hin : i = n := by omega
        rw [if_neg hlt] at hQ
        have e4 := t_nI (n := i) (by omega)
        refine g_iload4 dX0_extend_58 (g_aload0 dX0_extend_60 (g_get fl_X0_24 0 rfl rfl dX0_extend_61 (g_icmp_ge (tgt := 114) dX0_extend_64 (by decide) (fun h64 => g_vret rfl dX0_extend_114 (Nat.le_of_ble_eq_true rfl) (Nat.le_of_ble_eq_true rfl) ?q114_4) (fun h64 => ?s67_4))))
        case s67_4 => omega
        case q114_4 =>
          rw [hin] at hs
          exact hQ _ ⟨_, _, by rw [← hs], htr, by rw [← hs]; exact hfd⟩
      | succ t ih2 =>
        intro i s fd tr hi hlt hs htr hfd hle
        have e4 := t_nI (n := i) (by omega)
        have hbit := bset_and (l := l) (x := i) (fun y hy => by have := hll y hy; omega) (by omega)
        have hstep : (List.range (i + 1)).foldl (fun st x => if x ∈ l then st else extF n (cstN n pP eP) r (l ++ [x]) (sum + cstN n pP eP l x) st) st = if i ∈ l then s else extF n (cstN n pP eP) r (l ++ [i]) (sum + cstN n pP eP l i) s := by
          rw [List.range_succ, List.foldl_append, ← hs]; rfl
        refine g_iload4 dX0_extend_58 (g_aload0 dX0_extend_60 (g_get fl_X0_24 0 rfl rfl dX0_extend_61 (g_icmp_ge (tgt := 114) dX0_extend_64 (by decide) (fun h64 => ?s114_5) (fun h64 => g_iload2 dX0_extend_67 (g_iload4 dX0_extend_68 (r_X7_bitN hN (mn_X0_53 hN) dX0_extend_70 (Nat.le_of_ble_eq_true rfl) (Nat.le_of_ble_eq_true rfl) rfl (g_iand dX0_extend_73 (g_if_ne (tgt := 108) dX0_extend_74 (by decide) (fun h74 => ?s108_5) (fun h74 => g_aload0 dX0_extend_77 (g_get fl_X0_21 0 rfl rfl dX0_extend_78 (g_iload1 dX0_extend_81 (g_iload4 dX0_extend_82 (g_iastore 4 rfl dX0_extend_84 ?b84_5 (g_aload0 dX0_extend_85 (g_iload1 dX0_extend_86 (g_iconst ki_1 dX0_extend_87 (g_iadd dX0_extend_88 (g_iload2 dX0_extend_89 (g_iload4 dX0_extend_90 (r_X7_bitN hN (mn_X0_53 hN) dX0_extend_92 (Nat.le_of_ble_eq_true rfl) (Nat.le_of_ble_eq_true rfl) rfl (g_ior dX0_extend_95 (g_iload3 dX0_extend_96 (g_aload0 dX0_extend_97 (g_iload1 dX0_extend_98 (g_iload4 dX0_extend_99 (?c101_5))))))))))))))))))))))))))
        case s114_5 => omega
        case s108_5 =>
          have hil : i ∈ l := by
            by_cases q : i ∈ l
            · exact q
            · exact absurd (hbit.mpr q) h74
          rw [if_pos hil] at hstep
          refine g_iinc4 ki_1 dX0_extend_108 rfl rfl (g_goto (tgt := 58) dX0_extend_111 (by decide) (?s58_6))
          rw [nI_1]
          exact ih2 (i + 1) s fd tr (by omega) hlt hstep.symm htr hfd hle
        case b84_5 => omega
        case c101_5 =>
          have hil := hbit.mp h74
          rw [if_neg hil] at hstep
          have htr2 : Lst l (upd tr l.length (nI i)) := by
            intro j y hj
            have := (List.getElem?_eq_some_iff.mp hj).1
            rw [upd_o (by omega)]
            exact htr j y hj
          rw [e3, Int.toNat_natCast]
          dsimp only [List.set]
          have hc198 := cst_le hpr (by omega) hll (show i < n by omega) hil
          refine g_V2i dX0_extend_101 mv_X0_57 0 rfl rfl rfl (Nat.le_of_ble_eq_true rfl) (Nat.le_of_ble_eq_true rfl) (c_priceAt hN hn hpr (by omega) hll htr2 (by omega) hil) (fun r1 w1 hq => ?_)
          obtain ⟨rfl, rfl⟩ := hq
          refine g_iadd dX0_extend_104 (?c105_7)
          rw [bit_nI (by omega), or_nI, ← bset_snoc, nI_add, e3']
          have hlen : (l ++ [i]).length = l.length + 1 := by rw [List.length_append]; rfl
          have hih := ih (l ++ [i]) (sum + cstN n pP eP l i) s fd (upd tr l.length (nI i)) (by omega) (fun y hy => by
            rcases List.mem_append.mp hy with q | q
            · exact hll y q
            · rw [List.mem_singleton.mp q]; omega) (by rw [hlen]; omega) (by omega) (htr.push i) hfd
          rw [hlen] at hih
          refine g_V3v dX0_extend_105 mv_X0_49 0 rfl rfl rfl (Nat.le_of_ble_eq_true rfl) (Nat.le_of_ble_eq_true rfl) (hih) (fun w1 hq => ?_)
          obtain ⟨fd', tr', rfl, h5, h6⟩ := hq
          refine g_iinc4 ki_1 dX0_extend_108 rfl rfl (g_goto (tgt := 58) dX0_extend_111 (by decide) (?s58_8))
          rw [nI_1]
          refine ih2 (i + 1) _ fd' tr' (by omega) hlt hstep.symm ?_ h6 ?_
          · intro j y hj
            have := (List.getElem?_eq_some_iff.mp hj).1
            exact h5 j y (by rw [List.getElem?_append_left this]; exact hj)
          · exact Nat.le_trans (extF_le _ _ _ _ _ _) hle
    refine g_iload3 dX0_extend_0 (g_aload0 dX0_extend_1 (g_get fl_X0_28 0 rfl rfl dX0_extend_2 (g_icmp_lt (tgt := 9) dX0_extend_5 (by decide) (fun h5 => g_iload1 dX0_extend_9 (g_aload0 dX0_extend_10 (g_get fl_X0_24 0 rfl rfl dX0_extend_11 (g_icmp_lt (tgt := 55) dX0_extend_14 (by decide) (fun h14 => g_iconst ki_0 dX0_extend_55 (g_istore4 dX0_extend_56 rfl rfl (?s58_9))) (fun h14 => ?s17_9))))) (fun h5 => g_vret rfl dX0_extend_8 (Nat.le_of_ble_eq_true rfl) (Nat.le_of_ble_eq_true rfl) ?q8_9))))
    case q8_9 =>
      rw [if_pos (by omega)] at hQ
      exact hQ _ ⟨_, _, rfl, htr, hfd⟩
    case s17_9 => omega
    case s58_9 =>
      exact loop n 0 st fd tr (by omega) (by omega) rfl htr hfd (Nat.le_refl _)
set_option maxRecDepth 20000 in
theorem c_search (hN : g_N E) {pP : Nat → Nat → Nat → Nat} {eP : Nat → Nat} {fd tr : Nat → Int32} (hn : n ≤ 6) (hpr : prIs n pP eP en pr) : g_Ci E mX0_search (d + 10) [.ref (a k)] (ordW E a k en fd pr tr (nI n) le) (fun r w => ∃ fd' tr' le', w = ordW E a k en fd' pr tr' (nI n) le' ∧ (n = 0 → r = 0) ∧ (n ≠ 0 → r = nI (extF n (cstN n pP eP) n [] 0 (1000000, [])).1 ∧ Lst (extF n (cstN n pP eP) n [] 0 (1000000, [])).2 fd')) := by
  refine g_enterI hN.1 (by decide) [some (.ref (a k))] rfl (Nat.le_of_ble_eq_true rfl) (fun A Q hQ => ?_)
  have tc0 := tc_0; have tc1000000 := tc_1000000
  have e0 := t_nI (n := n) (by omega)
  refine g_aload0 dX0_search_0 (g_get fl_X0_24 0 rfl rfl dX0_search_1 (g_if_ne (tgt := 9) dX0_search_4 (by decide) (fun h4 => g_aload0 dX0_search_9 (g_ldc kc_X0_48 dX0_search_10 (g_put fl_X0_28 fp_0_5 0 rfl rfl rfl (Nat.le_of_ble_eq_true rfl) dX0_search_12 (g_aload0 dX0_search_15 (g_iconst ki_0 dX0_search_16 (g_iconst ki_0 dX0_search_17 (g_iconst ki_0 dX0_search_18 (?c19)))))))) (fun h4 => g_iconst ki_0 dX0_search_7 (g_iret rfl dX0_search_8 (Nat.le_of_ble_eq_true rfl) (Nat.le_of_ble_eq_true rfl) ?q8))))
  case q8 => exact hQ _ _ ⟨_, _, _, rfl, fun _ => rfl, fun h => by omega⟩
  case c19 =>
    have h := c_extend (d := d + (6 - n)) (k := k) (a := a) hN hn hpr n [] 0 (1000000, []) fd tr (by simp) (fun y hy => by cases hy) (Nat.zero_le _) (by omega) (fun i x h => by simp at h) (fun i x h => by simp at h)
    rw [show d + (6 - n) + n + 3 = d + 9 by omega] at h
    refine g_V3v dX0_search_19 mv_X0_49 0 rfl rfl rfl (Nat.le_of_ble_eq_true rfl) (Nat.le_of_ble_eq_true rfl) (h) (fun w1 hq => ?_)
    obtain ⟨fd', tr', rfl, h5, h6⟩ := hq
    refine g_aload0 dX0_search_22 (g_get fl_X0_28 0 rfl rfl dX0_search_23 (g_iret rfl dX0_search_26 (Nat.le_of_ble_eq_true rfl) (Nat.le_of_ble_eq_true rfl) ?q26_2))
    exact hQ _ _ ⟨_, _, _, rfl, fun h => by omega, fun _ => ⟨rfl, h6⟩⟩
end S28
