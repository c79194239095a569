/-! the reader -/
abbrev rdrW (E : GE) (a : Nat → Nat) (k : Nat) (tp : Nat → Int32) (sz nx tk ta nu : Int32) : va_W := [(a k, .inr (2, [.ref (a (k + 1)), .ref (a (k + 2)), .int sz, .int nx, .int tk, .int ta, .int nu])), (a (k + 1), ia E 160 tp)]
def tpOK (T : List Nat) (tp : Nat → Int32) : Prop := T.length ≤ 160 ∧ (∀ b ∈ T, b < 256) ∧ Lst T tp
theorem slc_len {T : List Nat} {s e : Nat} (h : e ≤ T.length) : (slc T s e).length = e - s := by
  unfold slc; rw [List.length_take, List.length_drop]; omega
theorem slc_get {T : List Nat} {s e i : Nat} (h : i < e - s) : (slc T s e)[i]? = T[s + i]? := by
  unfold slc; rw [List.getElem?_take, if_pos h, List.getElem?_drop]
section S33
variable {E : GE} {d : Nat} {a : Nat → Nat} {k : Nat} {adK adV ta : Nat → Nat} {T : List Nat} {tp : Nat → Int32}
set_option maxRecDepth 20000 in
theorem c_append (hN : g_N E) (hT : tpOK T tp) (hl : T.length < 160) {b : Nat} (hb : b < 256) (nx tk at_ nu : Int32) : g_Cv E mX2_append (d + 1) [.ref (a k), .int (nI b)] (rdrW E a k tp (nI T.length) nx tk at_ nu) (fun w => ∃ tp', w = rdrW E a k tp' (nI (T ++ [b]).length) nx tk at_ nu ∧ tpOK (T ++ [b]) tp') := by
  refine g_enterV hN.1 (by decide) [some (.ref (a k)), some (.int (nI b))] rfl (Nat.le_of_ble_eq_true rfl) (fun A Q hQ => ?_)
  have tc1 := tc_1; have tc160 := tc_160
  have e1 := t_nI (n := T.length) (by omega)
  refine g_aload0 dX2_append_0 (g_get fl_X2_22 0 rfl rfl dX2_append_1 (g_sipush ks_160 dX2_append_4 (g_icmp_ge (tgt := 30) dX2_append_7 (by decide) (fun h7 => g_vret rfl dX2_append_30 (Nat.le_of_ble_eq_true rfl) (Nat.le_of_ble_eq_true rfl) ?q30) (fun h7 => g_aload0 dX2_append_10 (g_get fl_X2_9 0 rfl rfl dX2_append_11 (g_aload0 dX2_append_14 (g_get fl_X2_22 0 rfl rfl dX2_append_15 (g_iload1 dX2_append_18 (g_iastore 1 rfl dX2_append_19 ?b19 (g_aload0 dX2_append_20 (g_dup dX2_append_21 rfl (g_get fl_X2_22 0 rfl rfl dX2_append_22 (g_iconst ki_1 dX2_append_25 (g_iadd dX2_append_26 (g_put fl_X2_22 fp_2_2 0 rfl rfl rfl (Nat.le_of_ble_eq_true rfl) dX2_append_27 (g_vret rfl dX2_append_30 (Nat.le_of_ble_eq_true rfl) (Nat.le_of_ble_eq_true rfl) ?q30'))))))))))))))))
  case q30 => omega
  case b19 => omega
  case q30' =>
    rw [e1, Int.toNat_natCast]
    refine hQ _ ⟨upd tp T.length (nI b), ?_, ?_, ?_, hT.2.2.push b⟩
    · rw [List.length_append, List.length_singleton, ← nI_1]; rfl
    · rw [List.length_append]; show T.length + 1 ≤ 160; omega
    · intro x hx
      rcases List.mem_append.mp hx with q | q
      · exact hT.2.1 x q
      · rw [List.mem_singleton.mp q]; exact hb
set_option maxRecDepth 20000 in
set_option maxHeartbeats 1000000 in
theorem c_isSpelled (hE : g_E E adK adV ta) (hT : tpOK T tp) {s e j : Nat} (hj : j < 12) (hse : s ≤ e) (he : e ≤ T.length) (tk nu : Int32) : g_Ci E mX2_isSpelled (d + 5) [.ref (a k), .ref (adK (j + 1))] (rdrW E a k tp (nI T.length) (nI e) tk (nI s) nu) (fun r w => r = g_bi (slc T s e = wrd j) ∧ w = rdrW E a k tp (nI T.length) (nI e) tk (nI s) nu) := by
  have hN := g_E_N hE
  obtain ⟨h1, h2, h3⟩ := hT
  obtain ⟨w1, w2⟩ := wrd_ok j hj
  have h39 := lnS_le (j + 1) (by omega)
  refine g_enterI hN.1 (by decide) [some (.ref (a k)), some (.ref (adK (j + 1))), none] rfl (Nat.le_of_ble_eq_true rfl) (fun A Q hQ => ?_)
  have tc0 := tc_0; have tc1 := tc_1
  have es := t_nI (n := s) (by omega)
  have ee := t_nI (n := e) (by omega)
  have el := t_nI (n := lnS (j + 1)) (by omega)
  have ed : (nI e - nI s).toInt = (e : Int) - s := by rw [t_sub (by omega) (by omega)]; omega
  have hlen := slc_len (s := s) he
  have loop : ∀ t i, i + t = lnS (j + 1) → e - s = lnS (j + 1) → (∀ m, m < i → T[s + m]? = some ((wrd j).getD m 0)) → G E mX2_isSpelled (d + 5) 0 0 A Q 0 0 20 [some (.ref (a k)), some (.ref (adK (j + 1))), some (.int (nI i))] [] (rdrW E a k tp (nI T.length) (nI e) tk (nI s) nu) := by
    intro t
    induction t with
    | zero =>
      intro i hi hls hm
      have ei := t_nI (n := i) (by omega)
      refine g_iload2 dX2_isSpelled_20 (g_aload1 dX2_isSpelled_21 (?c22))
      refine g_VS0i hE (by omega) dX2_isSpelled_22 mv_X2_118 rfl rfl (Nat.le_of_ble_eq_true rfl) (Nat.le_of_ble_eq_true rfl) ((c_strLen hE (by omega)).none) (fun r w hq => ?_)
      obtain ⟨w3, ⟨rfl, hw3⟩, rfl⟩ := hq
      rw [List.append_nil] at hw3
      subst hw3
      refine g_icmp_ge (tgt := 55) dX2_isSpelled_25 (by decide) (fun h25 => g_iconst ki_1 dX2_isSpelled_55 (g_zret rfl (by first | exact g_bi01 _ | exact Or.inl rfl | exact Or.inr rfl) dX2_isSpelled_56 (Nat.le_of_ble_eq_true rfl) (Nat.le_of_ble_eq_true rfl) ?q56_2)) (fun h25 => ?s28_2)
      case s28_2 => omega
      case q56_2 =>
        refine hQ _ _ ⟨(g_bi1 ?_).symm, rfl⟩
        apply List.ext_getElem?
        intro m
        by_cases hml : m < e - s
        · rw [slc_get hml, hm m (by omega), List.getD_eq_getElem?_getD, List.getElem?_eq_getElem (by omega)]; rfl
        · rw [List.getElem?_eq_none (by omega), List.getElem?_eq_none (by omega)]
    | succ t ih =>
      intro i hi hls hm
      have ei := t_nI (n := i) (by omega)
      obtain ⟨b, hb⟩ : ∃ b, T[s + i]? = some b := ⟨T[s + i], List.getElem?_eq_getElem (by omega)⟩
      have hb256 := h2 b (List.mem_of_getElem? hb)
      have eb := t_nI (n := b) (by omega)
      have esi : (nI s + nI i).toInt = ((s + i : Nat) : Int) := by rw [nI_add, t_nI (by omega)]
      refine g_iload2 dX2_isSpelled_20 (g_aload1 dX2_isSpelled_21 (?c22_3))
      refine g_VS0i hE (by omega) dX2_isSpelled_22 mv_X2_118 rfl rfl (Nat.le_of_ble_eq_true rfl) (Nat.le_of_ble_eq_true rfl) ((c_strLen hE (by omega)).none) (fun r w hq => ?_)
      obtain ⟨w3, ⟨rfl, hw3⟩, rfl⟩ := hq
      rw [List.append_nil] at hw3
      subst hw3
      refine g_icmp_ge (tgt := 55) dX2_isSpelled_25 (by decide) (fun h25 => ?s55_4) (fun h25 => g_aload1 dX2_isSpelled_28 (g_iload2 dX2_isSpelled_29 (?c30_4)))
      case s55_4 => omega
      case c30_4 =>
        refine g_VS1i hE (by omega) dX2_isSpelled_30 mv_X2_121 rfl rfl (Nat.le_of_ble_eq_true rfl) (Nat.le_of_ble_eq_true rfl) ((c_charAt (j := i) hE (by omega) (by omega)).none) (fun r w hq => ?_)
        obtain ⟨w3, ⟨rfl, hw3⟩, rfl⟩ := hq
        rw [List.append_nil] at hw3
        subst hw3
        rw [w2 i (by omega)]
        refine g_aload0 dX2_isSpelled_33 (g_get fl_X2_9 0 rfl rfl dX2_isSpelled_34 (g_aload0 dX2_isSpelled_37 (g_get fl_X2_34 0 rfl rfl dX2_isSpelled_38 (g_iload2 dX2_isSpelled_41 (g_iadd dX2_isSpelled_42 (g_iaload 1 rfl dX2_isSpelled_43 ?b43_5 (g_icmp_eq (tgt := 49) dX2_isSpelled_44 (by decide) (fun h44 => g_iinc2 ki_1 dX2_isSpelled_49 rfl rfl (g_goto (tgt := 20) dX2_isSpelled_52 (by decide) (?s20_5))) (fun h44 => g_iconst ki_0 dX2_isSpelled_47 (g_zret rfl (by first | exact g_bi01 _ | exact Or.inl rfl | exact Or.inr rfl) dX2_isSpelled_48 (Nat.le_of_ble_eq_true rfl) (Nat.le_of_ble_eq_true rfl) ?q48_5)))))))))
        case b43_5 => omega
        all_goals rw [esi, Int.toNat_natCast, h3.at hb] at h44
        case q48_5 =>
          refine hQ _ _ ⟨(g_bi0 ?_).symm, rfl⟩
          intro q
          apply h44
          have : (slc T s e)[i]? = some b := by rw [slc_get (by omega)]; exact hb
          rw [q] at this
          rw [List.getD_eq_getElem?_getD, this]; rfl
        case s20_5 =>
          rw [nI_1]
          refine ih (i + 1) (by omega) hls ?_
          intro m hmi
          by_cases hme : m = i
          · subst hme
            rw [hb]
            have hwlt : (wrd j).getD m 0 < 1000 := by
              have : ∀ j, j < 12 → ∀ m, m < (wrd j).length → (wrd j).getD m 0 < 1000 := by decide +kernel
              exact this j hj m (by omega)
            exact congrArg some ((nI_inj (by omega) hwlt).mp (Int32.toInt_inj.mp h44).symm)
          · exact hm m (by omega)
  refine g_aload1 dX2_isSpelled_0 (?c1_6)
  refine g_VS0i hE (by omega) dX2_isSpelled_1 mv_X2_118 rfl rfl (Nat.le_of_ble_eq_true rfl) (Nat.le_of_ble_eq_true rfl) ((c_strLen hE (by omega)).none) (fun r w hq => ?_)
  obtain ⟨w3, ⟨rfl, hw3⟩, rfl⟩ := hq
  rw [List.append_nil] at hw3
  subst hw3
  refine g_aload0 dX2_isSpelled_4 (g_get fl_X2_26 0 rfl rfl dX2_isSpelled_5 (g_aload0 dX2_isSpelled_8 (g_get fl_X2_34 0 rfl rfl dX2_isSpelled_9 (g_isub dX2_isSpelled_12 (g_icmp_eq (tgt := 18) dX2_isSpelled_13 (by decide) (fun h13 => g_iconst ki_0 dX2_isSpelled_18 (g_istore2 dX2_isSpelled_19 rfl rfl (?s20_7))) (fun h13 => g_iconst ki_0 dX2_isSpelled_16 (g_zret rfl (by first | exact g_bi01 _ | exact Or.inl rfl | exact Or.inr rfl) dX2_isSpelled_17 (Nat.le_of_ble_eq_true rfl) (Nat.le_of_ble_eq_true rfl) ?q17_7)))))))
  case q17_7 =>
    refine hQ _ _ ⟨(g_bi0 ?_).symm, rfl⟩
    intro q
    have := congrArg List.length q
    omega
  case s20_7 => exact loop (lnS (j + 1)) 0 (by omega) (by omega) (fun m h => absurd h (Nat.not_lt_zero m))
set_option maxRecDepth 20000 in
set_option maxHeartbeats 1000000 in
theorem c_passWord (hE : g_E E adK adV ta) (hT : tpOK T tp) {s e : Nat} (hse : s ≤ e) (he : e ≤ T.length) (tk nu : Int32) : g_Ci E mX2_passWord (d + 6) [.ref (a k)] (rdrW E a k tp (nI T.length) (nI e) tk (nI s) nu) (fun r w => r = nI (wcode (slc T s (scan letB T e))) ∧ w = rdrW E a k tp (nI T.length) (nI (scan letB T e)) tk (nI s) nu) := by
  have hN := g_E_N hE
  have hT' := hT
  obtain ⟨h1, h2, h3⟩ := hT
  refine g_enterI hN.1 (by decide) [some (.ref (a k)), none] rfl (Nat.le_of_ble_eq_true rfl) (fun A Q hQ => ?_)
  have tc0 := tc_0; have tc1 := tc_1; have tc12 := tc_12; have tc23 := tc_23
  have es := t_nI (n := s) (by omega)
  have el := t_nI (n := T.length) (by omega)
  generalize hf : scan letB T e = f at hQ
  have hfT : f ≤ T.length := by rw [← hf]; exact scan_le _ he
  have hsf : s ≤ f := by have := scan_ge letB T e; omega
  have loop2 : ∀ t j, j + t = 12 → wcode (slc T s f) = wcodeF (slc T s f) j t → G E mX2_passWord (d + 6) 0 0 A Q 0 0 41 [some (.ref (a k)), some (.int (nI j))] [] (rdrW E a k tp (nI T.length) (nI f) tk (nI s) nu) := by
    intro t
    induction t with
    | zero =>
      intro j hj hc
      have ej := t_nI (n := j) (by omega)
      refine g_iload1 dX2_passWord_41 (g_bipush kb_12 dX2_passWord_42 (g_icmp_ge (tgt := 66) dX2_passWord_44 (by decide) (fun h44 => g_bipush kb_23 dX2_passWord_66 (g_iret rfl dX2_passWord_68 (Nat.le_of_ble_eq_true rfl) (Nat.le_of_ble_eq_true rfl) ?q68)) (fun h44 => ?s47)))
      case s47 => omega
      case q68 => exact hQ _ _ ⟨by rw [hc]; rfl, rfl⟩
    | succ t ih =>
      intro j hj hc
      have ej := t_nI (n := j) (by omega)
      rw [wcodeF] at hc
      refine g_iload1 dX2_passWord_41 (g_bipush kb_12 dX2_passWord_42 (g_icmp_ge (tgt := 66) dX2_passWord_44 (by decide) (fun h44 => ?s66_2) (fun h44 => g_aload0 dX2_passWord_47 (g_iload1 dX2_passWord_48 (?c49_2)))))
      case s66_2 => omega
      case c49_2 =>
        refine g_S1a dX2_passWord_49 mv_X2_110 rfl (Nat.le_of_ble_eq_true rfl) (Nat.le_of_ble_eq_true rfl) ((c_spelling hE (by omega)).frame (X := []) (Y := rdrW E a k tp (nI T.length) (nI f) tk (nI s) nu)) (fun r w hq => ?_)
        obtain ⟨w3, ⟨rfl, rfl⟩, rfl⟩ := hq
        refine g_V1i dX2_passWord_52 mv_X2_114 0 rfl rfl rfl (Nat.le_of_ble_eq_true rfl) (Nat.le_of_ble_eq_true rfl) (c_isSpelled hE hT' (by omega) hsf hfT tk nu) (fun r1 w1 hq => ?_)
        obtain ⟨rfl, rfl⟩ := hq
        have hb := g_biz (p := (slc T s f = wrd j))
        refine g_if_eq (tgt := 60) dX2_passWord_55 (by decide) (fun h55 => g_iinc1 ki_1 dX2_passWord_60 rfl rfl (g_goto (tgt := 41) dX2_passWord_63 (by decide) (?s41_3))) (fun h55 => g_iload1 dX2_passWord_58 (g_iret rfl dX2_passWord_59 (Nat.le_of_ble_eq_true rfl) (Nat.le_of_ble_eq_true rfl) ?q59_3))
        case q59_3 =>
          have : slc T s f = wrd j := by
            by_cases q : slc T s f = wrd j
            · exact q
            · exact absurd (hb.mpr q) h55
          rw [if_pos this] at hc
          exact hQ _ _ ⟨by rw [hc], rfl⟩
        case s41_3 =>
          rw [if_neg (hb.mp h55)] at hc
          rw [nI_1]
          exact ih (j + 1) (by omega) hc
  have loop : ∀ t i, i + t = f → scan letB T i = f → G E mX2_passWord (d + 6) 0 0 A Q 0 0 0 [some (.ref (a k)), none] [] (rdrW E a k tp (nI T.length) (nI i) tk (nI s) nu) := by
    intro t
    induction t with
    | zero =>
      intro i hi hs
      have ei := t_nI (n := i) (by omega)
      have hif : i = f := by omega
      subst hif
      refine g_aload0 dX2_passWord_0 (g_get fl_X2_26 0 rfl rfl dX2_passWord_1 (g_aload0 dX2_passWord_4 (g_get fl_X2_22 0 rfl rfl dX2_passWord_5 (g_icmp_ge (tgt := 39) dX2_passWord_8 (by decide) (fun h8 => g_iconst ki_0 dX2_passWord_39 (g_istore1 dX2_passWord_40 rfl rfl (?s41_4))) (fun h8 => g_aload0 dX2_passWord_11 (g_get fl_X2_9 0 rfl rfl dX2_passWord_12 (g_aload0 dX2_passWord_15 (g_get fl_X2_26 0 rfl rfl dX2_passWord_16 (g_iaload 1 rfl dX2_passWord_19 ?b19_4 (r_X2_isLetter hN mv_X2_89 dX2_passWord_20 (Nat.le_of_ble_eq_true rfl) (Nat.le_of_ble_eq_true rfl) rfl (g_if_eq (tgt := 39) dX2_passWord_23 (by decide) (fun h23 => g_iconst ki_0 dX2_passWord_39 (g_istore1 dX2_passWord_40 rfl rfl (?s41_4'))) (fun h23 => ?s26_4))))))))))))
      case s41_4 => exact loop2 12 0 rfl rfl
      case b19_4 => omega
      case s41_4' => exact loop2 12 0 rfl rfl
      case s26_4 =>
        exfalso
        obtain ⟨b, hb⟩ : ∃ b, T[i]? = some b := ⟨T[i], List.getElem?_eq_getElem (by omega)⟩
        have hb256 := h2 b (List.mem_of_getElem? hb)
        have eb := t_nI (n := b) (by omega)
        rw [ei, Int.toNat_natCast, h3.at hb, eb] at h23
        have hz := g_biz (p := ((97 : Int) ≤ (b : Int) ∧ (b : Int) ≤ 122))
        have hlb : letB b = true := decide_eq_true (by omega)
        have := scan_yes hb hlb
        have := scan_ge letB T (i + 1)
        omega
    | succ t ih =>
      intro i hi hs
      have ei := t_nI (n := i) (by omega)
      obtain ⟨b, hb⟩ : ∃ b, T[i]? = some b := ⟨T[i], List.getElem?_eq_getElem (by omega)⟩
      have hb256 := h2 b (List.mem_of_getElem? hb)
      have eb := t_nI (n := b) (by omega)
      have hlb : letB b = true := by
        by_cases q : letB b = true
        · exact q
        · have := scan_no (P := letB) (T := T) (p := i) (fun c hc => by rw [hb] at hc; cases hc; simpa using q)
          omega
      have hlb2 : 97 ≤ b ∧ b ≤ 122 := of_decide_eq_true hlb
      have hz := g_biz (p := ((97 : Int) ≤ (b : Int) ∧ (b : Int) ≤ 122))
      refine g_aload0 dX2_passWord_0 (g_get fl_X2_26 0 rfl rfl dX2_passWord_1 (g_aload0 dX2_passWord_4 (g_get fl_X2_22 0 rfl rfl dX2_passWord_5 (g_icmp_ge (tgt := 39) dX2_passWord_8 (by decide) (fun h8 => ?s39_5) (fun h8 => g_aload0 dX2_passWord_11 (g_get fl_X2_9 0 rfl rfl dX2_passWord_12 (g_aload0 dX2_passWord_15 (g_get fl_X2_26 0 rfl rfl dX2_passWord_16 (g_iaload 1 rfl dX2_passWord_19 ?b19_5 (r_X2_isLetter hN mv_X2_89 dX2_passWord_20 (Nat.le_of_ble_eq_true rfl) (Nat.le_of_ble_eq_true rfl) rfl (g_if_eq (tgt := 39) dX2_passWord_23 (by decide) (fun h23 => ?s39_5') (fun h23 => g_aload0 dX2_passWord_26 (g_dup dX2_passWord_27 rfl (g_get fl_X2_26 0 rfl rfl dX2_passWord_28 (g_iconst ki_1 dX2_passWord_31 (g_iadd dX2_passWord_32 (g_put fl_X2_26 fp_2_3 0 rfl rfl rfl (Nat.le_of_ble_eq_true rfl) dX2_passWord_33 (g_goto (tgt := 0) dX2_passWord_36 (by decide) (?s0_5)))))))))))))))))))
      case s39_5 => omega
      case b19_5 => omega
      case s39_5' => rw [ei, Int.toNat_natCast, h3.at hb, eb] at h23; omega
      case s0_5 =>
        have := ih (i + 1) (by omega) (by rw [← hs]; exact (scan_yes hb hlb).symm)
        rw [← nI_1] at this
        exact this
  exact loop (f - e) e (by have := scan_ge letB T e; omega) hf
end S33
