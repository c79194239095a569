/-! the model: fetching -/
abbrev mK7 : List Nat := [16, 17, 18, 19, 20, 21, 22, 23, 24, 25, 26, 28, 29, 30, 44, 45]
def cwN (D : Dg) (l : List Nat) (x : Nat) : Nat := if l = [] then hoN D x else hdN D (l.getLastD 0) x
def cfN (D : Dg) : List Nat → Nat → Nat := cstN D.1.length (fun _ => hdN D) (hoN D)
def coN (D : Dg) (C : List Int32) (e : Nat → Nat) : List Nat → Nat → Nat := cstN D.1.length (fun _ => prW D C e) (fun _ => 0)
theorem ho_le {D : Dg} (hD : dgOK D) {x : Nat} (hx : x < D.1.length) : hoN D x ≤ 99 := by
  obtain ⟨hn, l1, l2, l3, l4, b1, b2, b3, b4, b5, hnd⟩ := hD
  exact b4 _ (List.mem_of_getElem? (getD_at (by omega)))
theorem hd_le {D : Dg} (hD : dgOK D) {x y : Nat} (hx : x < D.1.length) (hy : y < D.1.length) : hdN D x y ≤ 99 := by
  have h1 := ho_le hD hx
  have h2 := ho_le hD hy
  unfold hdN absN
  split <;> omega
theorem pw_le (D : Dg) (C : List Int32) (e : Nat → Nat) (x y : Nat) : prW D C e x y ≤ 99 := by
  have := rlI_0 C e (nmF D.1.length D.2.1 (min x y) (max x y) 1 (nI (plN D (min x y)))) (part := 0) (by omega)
  unfold prW
  omega
theorem last_lt {l : List Nat} {n j : Nat} (hlt : ∀ x ∈ l, x < n) (hj : j < l.length) (h0 : l.take j ≠ []) : (l.take j).getLastD 0 < n := by
  have hmem : (l.take j).getLastD 0 ∈ l.take j := by
    rw [List.getLastD_eq_getLast?, List.getLast?_eq_some_getLast h0]
    exact List.getLast_mem h0
  exact hlt _ (List.mem_of_mem_take hmem)
theorem cw_tot {D : Dg} (hD : dgOK D) {l : List Nat} (hl : l.length ≤ D.1.length) (hlt : ∀ x ∈ l, x < D.1.length) : totN (cwN D) l ≤ 99 * l.length := by
  refine tN_le _ (fun j hj => ?_)
  have hg := hlt _ (List.mem_of_getElem? (getD_at hj))
  unfold cwN
  split
  · exact ho_le hD hg
  · exact hd_le hD (last_lt hlt hj (by assumption)) hg
theorem co_tot {D : Dg} (C : List Int32) (e : Nat → Nat) (l : List Nat) : totN (coN D C e) l ≤ 99 * l.length := by
  refine tN_le _ (fun j hj => ?_)
  unfold coN cstN
  dsimp only
  have := pw_le D C e ((l.take j).getLastD 0) (l.getD j 0)
  split <;> split <;> omega
theorem cf_pre {D : Dg} {l : List Nat} : ∀ i, i < D.1.length → i ≤ l.length → tN (cfN D) l i = tN (cwN D) l i
  | 0, _, _ => rfl
  | i + 1, h, h2 => by
    have hll : (l.take i).length = i := by rw [List.length_take]; omega
    rw [tN, tN, cf_pre i (by omega) (by omega)]
    congr 1
    unfold cfN cstN cwN
    rw [hll, if_neg (show ¬ i + 1 = D.1.length by omega), Nat.add_zero]
theorem cf_end {D : Dg} {l : List Nat} (hl : l.length = D.1.length) (h0 : 0 < D.1.length) : totN (cfN D) l = totN (cwN D) l + hoN D (l.getD (D.1.length - 1) 0) := by
  unfold totN
  rw [hl, show D.1.length = D.1.length - 1 + 1 by omega, tN, tN, cf_pre _ (by omega) (by omega)]
  have hll : (l.take (D.1.length - 1)).length = D.1.length - 1 := by rw [List.length_take]; omega
  have hc : cfN D (l.take (D.1.length - 1)) (l.getD (D.1.length - 1) 0) = cwN D (l.take (D.1.length - 1)) (l.getD (D.1.length - 1) 0) + hoN D (l.getD (D.1.length - 1) 0) := by
    unfold cfN cstN cwN
    rw [hll, if_pos (show D.1.length - 1 + 1 = D.1.length by omega)]
  rw [hc, show D.1.length - 1 + 1 - 1 = D.1.length - 1 by omega]
  omega
theorem nmF_sym (n : Nat) (P : List Nat) (x y : Nat) (near hand : Int32) : nmF n P x y near hand = nmF n P (min x y) (max x y) near hand := by
  have h1 : min (min x y) (max x y) = min x y := by omega
  have h2 : max (min x y) (max x y) = max x y := by omega
  have h3 : pdN P x y = pdN P (min x y) (max x y) := by
    by_cases h : x ≤ y
    · rw [Nat.min_eq_left h, Nat.max_eq_right h]
    · rw [Nat.min_eq_right (by omega), Nat.max_eq_left (by omega)]
      unfold pdN
      split <;> split <;> omega
  unfold nmF
  rw [h1, h2, h3]
def ODd (D : Dg) (C : List Int32) (e : Nat → Nat) (F : Nat → Int32) : Prop := ∀ x y, x < D.1.length → y < D.1.length → x ≠ y → F (6 * x + y) = nI (prW D C e x y)
def BS1 (v : Nat → Int32) (f : Nat → Nat → Int32) (st : Nat × List Nat) : Prop := v 44 = boI st.1 ∧ Lst st.2 (f 43) ∧ st.1 ≤ 2147483647
def BS2 (v : Nat → Int32) (k : Nat) : Prop := v 45 = boI k ∧ k ≤ 2147483647
theorem bo_lt {x k : Nat} (hx : x < 2147483647) (hk : k ≤ 2147483647) : x < k ↔ (boI k).toInt = -1 ∨ (x : Int) < (boI k).toInt := by
  unfold boI
  by_cases h : k = 2147483647
  · rw [if_pos h]
    have : (-1 : Int32).toInt = -1 := by decide
    omega
  · rw [if_neg h, t_nI (by omega)]
    omega
section S96
variable {E : GE} {d : Nat} {b : Nat → Nat} {v : Nat → Int32} {t : Int64} {f : Nat → Nat → Int32} {D : Dg} {B : List Nat} {C : List Int32} {e : Nat → Nat} {ru : Nat}
set_option maxRecDepth 20000 in
set_option maxHeartbeats 1000000 in
theorem c_X8_fetches (hN : g_N E) (hD : dgOK D) : ∀ (r : Nat) (l : List Nat) (s1 s2 : Nat × List Nat) (v : Nat → Int32) (t : Int64) (f : Nat → Nat → Int32), l.length + r = D.1.length → l.Nodup → (∀ y ∈ l, y < D.1.length) → MD v f D → Lst l (f 42) → ODd D C e (f 46) → BS1 v f s1 → BS2 v s2.1 → g_Cv E mX8_fetches (d + r + 3) [.ref (b 0), .int (nI l.length), .int (nI (bset l)), .int (nI (totN (cwN D) l)), .int (nI (totN (coN D C e) l))] (mW E b v t f) (fun w => ∃ v' f', w = mW E b v' t f' ∧ agV [44, 45] v v' ∧ agF [42, 43] f f' ∧ Lst l (f' 42) ∧ BS1 v' f' (enF D.1.length (totN (cfN D)) r l s1) ∧ BS2 v' (enF D.1.length (totN (coN D C e)) r l s2).1) := by
  obtain ⟨hn, l1, l2, l3, l4, b1, b2, b3, b4, b5, hnd0⟩ := id hD
  intro r
  induction r with
  | zero =>
    intro l s1 s2 v t f hl hnd hlt hM hLw hO hB1 hB2
    have e12 : (v 12).toInt = D.1.length := by rw [hM.1, t_nI (by omega)]
    have el := t_nI (n := l.length) (by omega)
    obtain ⟨p1, p2, p3⟩ := id hB1
    obtain ⟨q1, q2⟩ := id hB2
    have hcw := cw_tot hD (l := l) (by omega) hlt
    have hco := co_tot (D := D) C e l
    refine g_enterV hN.1 (by decide) [some (.ref (b 0)), some (.int (nI l.length)), some (.int (nI (bset l))), some (.int (nI (totN (cwN D) l))), some (.int (nI (totN (coN D C e) l))), none, none, none] rfl (Nat.le_of_ble_eq_true rfl) (fun A Q hQ => ?_)
    have tcm1 := tc_m1; have tc0 := tc_0; have tc1 := tc_1; have tc6 := tc_6
    generalize hWW : totN (cwN D) l = WW at *
    generalize hOO : totN (coN D C e) l = OO at *
    have eO := t_nI (n := OO) (by omega)
    have hbo2 := bo_lt (x := OO) (k := s2.1) (by omega) q2
    have e45 : (v 45).toInt = (boI s2.1).toInt := by rw [q1]
    have tail : ∀ v2 f2 (l5 l6 l7 : Option Value), agV [44] v v2 → agF [43] f f2 → BS1 v2 f2 (enF D.1.length (totN (cfN D)) 0 l s1) → G E mX8_fetches (d + 0 + 3) 0 0 A Q 0 0 94 [some (.ref (b 0)), some (.int (nI l.length)), some (.int (nI (bset l))), some (.int (nI WW)), some (.int (nI OO)), l5, l6, l7] [] (mW E b v2 t f2) := by
      intro v2 f2 l5 l6 l7 h1 h2 h3
      have e45' : (v2 45).toInt = (boI s2.1).toInt := by rw [h1.at 45 rfl, q1]
      have fin : ∀ z, z = boI (enF D.1.length (totN (coN D C e)) 0 l s2).1 → Q none (mW E b (upd v2 45 z) t f2) := by
        intro z hz
        refine hQ _ ⟨_, f2, rfl, (h1.wk rfl).up 45 _ rfl, h2.wk rfl, by rw [h2.at 42 rfl]; exact hLw, ?_, ?_⟩
        · exact ⟨by rw [upd_o (by decide)]; exact h3.1, h3.2.1, h3.2.2⟩
        · refine ⟨by rw [upd_s, hz], ?_⟩
          have := enF_le D.1.length (totN (coN D C e)) 0 l s2
          omega
      have yes : OO < s2.1 → nI OO = boI (enF D.1.length (totN (coN D C e)) 0 l s2).1 := by
        intro h
        rw [enF, hOO, if_pos h]
        unfold boI
        rw [if_neg (by dsimp only; omega)]
      have no : ¬ OO < s2.1 → v2 45 = boI (enF D.1.length (totN (coN D C e)) 0 l s2).1 := by
        intro h
        rw [enF, hOO, if_neg h, h1.at 45 rfl, q1]
      refine g_aload0 dX8_fetches_94 (g_aload0 dX8_fetches_95 (g_mget fl_X8_330 mg_45 dX8_fetches_96 (g_iconst ki_m1 dX8_fetches_99 (g_icmp_eq (tgt := 112) dX8_fetches_100 (by decide) (fun h100 => g_iload4 dX8_fetches_112 (g_goto (tgt := 121) dX8_fetches_114 (by decide) (g_mput fl_X8_330 fp_7_45 ms_45 rfl rfl rfl dX8_fetches_121 (g_vret rfl dX8_fetches_124 (Nat.le_of_ble_eq_true rfl) (Nat.le_of_ble_eq_true rfl) ?q124)))) (fun h100 => g_iload4 dX8_fetches_103 (g_aload0 dX8_fetches_105 (g_mget fl_X8_330 mg_45 dX8_fetches_106 (g_icmp_ge (tgt := 117) dX8_fetches_109 (by decide) (fun h109 => g_aload0 dX8_fetches_117 (g_mget fl_X8_330 mg_45 dX8_fetches_118 (g_mput fl_X8_330 fp_7_45 ms_45 rfl rfl rfl dX8_fetches_121 (g_vret rfl dX8_fetches_124 (Nat.le_of_ble_eq_true rfl) (Nat.le_of_ble_eq_true rfl) ?q124')))) (fun h109 => g_iload4 dX8_fetches_112 (g_goto (tgt := 121) dX8_fetches_114 (by decide) (g_mput fl_X8_330 fp_7_45 ms_45 rfl rfl rfl dX8_fetches_121 (g_vret rfl dX8_fetches_124 (Nat.le_of_ble_eq_true rfl) (Nat.le_of_ble_eq_true rfl) ?q124''))))))))))))
      case q124 => exact fin _ (yes (by omega))
      case q124' => exact fin _ (no (by omega))
      case q124'' => exact fin _ (yes (by omega))
    have copy : ∀ u i v2 f2 (l5 : Int32) (l7 : Option Value), i + u = D.1.length → agV [44] v v2 → agF [43] f f2 → (∀ j, j < i → f2 43 j = f 42 j) → v2 44 = boI (totN (cfN D) l) → totN (cfN D) l < s1.1 → G E mX8_fetches (d + 0 + 3) 0 0 A Q 0 0 65 [some (.ref (b 0)), some (.int (nI l.length)), some (.int (nI (bset l))), some (.int (nI WW)), some (.int (nI OO)), some (.int l5), some (.int (nI i)), l7] [] (mW E b v2 t f2) := by
      intro u
      induction u with
      | zero =>
        intro i v2 f2 l5 l7 hi h1 h2 h3 h4 h5
        have ei := t_nI (n := i) (by omega)
        have e12 : (v2 12).toInt = D.1.length := by rw [h1.at 12 rfl, hM.1, t_nI (by omega)]
        refine g_iload6 dX8_fetches_65 (g_aload0 dX8_fetches_67 (g_mget fl_X8_103 mg_12 dX8_fetches_68 (g_icmp_ge (tgt := 94) dX8_fetches_71 (by decide) (fun h71 => ?s94_2) (fun h71 => ?s74_2))))
        case s74_2 => omega
        case s94_2 =>
          refine tail v2 f2 _ _ _ h1 h2 ?_
          rw [enF, if_pos h5]
          refine ⟨h4, ?_, by dsimp only; omega⟩
          intro j x hj
          have : j < l.length := (List.getElem?_eq_some_iff.mp hj).1
          rw [h3 j (by omega)]
          exact hLw j x hj
      | succ u ih =>
        intro i v2 f2 l5 l7 hi h1 h2 h3 h4 h5
        have ei := t_nI (n := i) (by omega)
        have e12 : (v2 12).toInt = D.1.length := by rw [h1.at 12 rfl, hM.1, t_nI (by omega)]
        refine g_iload6 dX8_fetches_65 (g_aload0 dX8_fetches_67 (g_mget fl_X8_103 mg_12 dX8_fetches_68 (g_icmp_ge (tgt := 94) dX8_fetches_71 (by decide) (fun h71 => ?s94_3) (fun h71 => g_aload0 dX8_fetches_74 (g_mget fl_X8_68 mg_43 dX8_fetches_75 (g_iload6 dX8_fetches_78 (g_aload0 dX8_fetches_80 (g_mget fl_X8_65 mg_42 dX8_fetches_81 (g_iload6 dX8_fetches_84 (g_mia ma_42 dX8_fetches_86 ?b86_3 (g_mis ma_43 mas_43 dX8_fetches_87 ?b87_3 (g_iinc6 ki_1 dX8_fetches_88 rfl rfl (g_goto (tgt := 65) dX8_fetches_91 (by decide) (?s65_3))))))))))))))
        case s94_3 => omega
        case s65_3 =>
          rw [ei, Int.toNat_natCast, nI_1, h2.at 42 rfl]
          refine ih (i + 1) _ _ _ _ (by omega) h1 (h2.up 43 _ rfl) ?_ h4 h5
          intro j hj
          rw [updA_s]
          by_cases hji : j = i
          · rw [hji, upd_s]
          · rw [upd_o hji]; exact h3 j (by omega)
        all_goals omega
    have all : ∀ (TT : Nat) (l6 l7 : Option Value), TT = totN (cfN D) l → TT < 2147483647 → G E mX8_fetches (d + 0 + 3) 0 0 A Q 0 0 39 [some (.ref (b 0)), some (.int (nI l.length)), some (.int (nI (bset l))), some (.int (nI WW)), some (.int (nI OO)), some (.int (nI TT)), l6, l7] [] (mW E b v t f) := by
      intro TT l6 l7 hT hTb
      have eT := t_nI (n := TT) (by omega)
      have hbo := bo_lt (x := TT) (k := s1.1) hTb p3
      have e44 : (v 44).toInt = (boI s1.1).toInt := by rw [p1]
      have yes : TT < s1.1 → ∀ l6, G E mX8_fetches (d + 0 + 3) 0 0 A Q 0 0 56 [some (.ref (b 0)), some (.int (nI l.length)), some (.int (nI (bset l))), some (.int (nI WW)), some (.int (nI OO)), some (.int (nI TT)), l6, l7] [] (mW E b v t f) := by
        intro h l6
        refine g_aload0 dX8_fetches_56 (g_iload5 dX8_fetches_57 (g_mput fl_X8_327 fp_7_44 ms_44 rfl rfl rfl dX8_fetches_59 (g_iconst ki_0 dX8_fetches_62 (g_istore6 dX8_fetches_63 rfl rfl (?s65_4)))))
        refine copy D.1.length 0 _ _ _ _ (by omega) (agV.rf.up 44 _ rfl) agF.rf (fun j hj => absurd hj (Nat.not_lt_zero j)) ?_ (by omega)
        rw [upd_s, ← hT]
        unfold boI
        rw [if_neg (by omega)]
      refine g_aload0 dX8_fetches_39 (g_mget fl_X8_327 mg_44 dX8_fetches_40 (g_iconst ki_m1 dX8_fetches_43 (g_icmp_eq (tgt := 56) dX8_fetches_44 (by decide) (fun h44 => ?s56_5) (fun h44 => g_iload5 dX8_fetches_47 (g_aload0 dX8_fetches_49 (g_mget fl_X8_327 mg_44 dX8_fetches_50 (g_icmp_ge (tgt := 94) dX8_fetches_53 (by decide) (fun h53 => ?s94_5) (fun h53 => ?s56_5'))))))))
      case s56_5 => exact yes (by omega) _
      case s94_5 =>
        refine tail v f _ _ _ agV.rf agF.rf ?_
        rw [enF, if_neg (by omega)]
        exact hB1
      case s56_5' => exact yes (by omega) _
    by_cases h0 : D.1.length = 0
    · have hle : l = [] := List.length_eq_zero_iff.mp (by omega)
      have hT0 : 0 = totN (cfN D) l := by rw [hle]; rfl
      have := all 0 none none hT0 (by omega)
      refine g_iload1 dX8_fetches_0 (g_aload0 dX8_fetches_1 (g_mget fl_X8_103 mg_12 dX8_fetches_2 (g_icmp_ne (tgt := 125) dX8_fetches_5 (by decide) (fun h5 => ?s125_6) (fun h5 => g_aload0 dX8_fetches_8 (g_mget fl_X8_103 mg_12 dX8_fetches_9 (g_if_ne (tgt := 19) dX8_fetches_12 (by decide) (fun h12 => ?s19_6) (fun h12 => g_iconst ki_0 dX8_fetches_15 (g_goto (tgt := 37) dX8_fetches_16 (by decide) (g_istore5 dX8_fetches_37 rfl rfl (?s39_6))))))))))
      case s125_6 => omega
      case s19_6 => omega
      case s39_6 => exact this
    · have gl := getD_at (l := l) (i := D.1.length - 1) (by omega)
      have hll := hlt _ (List.mem_of_getElem? gl)
      have hho := ho_le hD hll
      have hce := cf_end (D := D) (l := l) (by omega) (by omega)
      rw [hWW] at hce
      have e1 : (v 12 - 1).toInt = ((D.1.length - 1 : Nat) : Int) := by rw [t_sub (by rw [tc_1]; omega) (by rw [tc_1]; omega), e12, tc_1]; omega
      have hwk : f 42 (D.1.length - 1) = nI (l.getD (D.1.length - 1) 0) := hLw.at gl
      have ell := t_nI (n := l.getD (D.1.length - 1) 0) (by omega)
      have hhs : f 10 (l.getD (D.1.length - 1) 0) = nI (hoN D (l.getD (D.1.length - 1) 0)) := hM.2.2.2.2.1.at (getD_at (by omega))
      have := all (WW + hoN D (l.getD (D.1.length - 1) 0)) none none (by omega) (by omega)
      refine g_iload1 dX8_fetches_0 (g_aload0 dX8_fetches_1 (g_mget fl_X8_103 mg_12 dX8_fetches_2 (g_icmp_ne (tgt := 125) dX8_fetches_5 (by decide) (fun h5 => ?s125_7) (fun h5 => g_aload0 dX8_fetches_8 (g_mget fl_X8_103 mg_12 dX8_fetches_9 (g_if_ne (tgt := 19) dX8_fetches_12 (by decide) (fun h12 => g_iload3 dX8_fetches_19 (g_aload0 dX8_fetches_20 (g_mget fl_X8_32 mg_10 dX8_fetches_21 (g_aload0 dX8_fetches_24 (g_mget fl_X8_65 mg_42 dX8_fetches_25 (g_aload0 dX8_fetches_28 (g_mget fl_X8_103 mg_12 dX8_fetches_29 (g_iconst ki_1 dX8_fetches_32 (g_isub dX8_fetches_33 (g_mia ma_42 dX8_fetches_34 ?b34_7 (g_mia ma_10 dX8_fetches_35 ?b35_7 (g_iadd dX8_fetches_36 (g_istore5 dX8_fetches_37 rfl rfl (?s39_7)))))))))))))) (fun h12 => g_iconst ki_0 dX8_fetches_15 (g_goto (tgt := 37) dX8_fetches_16 (by decide) (g_istore5 dX8_fetches_37 rfl rfl (?s39_7'))))))))))
      case s125_7 => omega
      case s39_7' => omega
      case b34_7 => omega
      case b35_7 => rw [e1, Int.toNat_natCast, hwk]; omega
      case s39_7 =>
        rw [e1, Int.toNat_natCast, hwk, ell, Int.toNat_natCast, hhs, nI_add]
        exact this
  | succ r ih =>
    intro l s1 s2 v t f hl hnd hlt hM hLw hO hB1 hB2
    have el := t_nI (n := l.length) (by omega)
    have hbs := bset_lt l (fun y hy => by have := hlt y hy; omega)
    have hcw := cw_tot hD (l := l) (by omega) hlt
    have hco := co_tot (D := D) C e l
    refine g_enterV hN.1 (by decide) [some (.ref (b 0)), some (.int (nI l.length)), some (.int (nI (bset l))), some (.int (nI (totN (cwN D) l))), some (.int (nI (totN (coN D C e) l))), none, none, none] rfl (Nat.le_of_ble_eq_true rfl) (fun A Q hQ => ?_)
    have tcm1 := tc_m1; have tc0 := tc_0; have tc1 := tc_1; have tc6 := tc_6
    generalize hSF1 : (fun (st : Nat × List Nat) (x : Nat) => if x ∈ l then st else enF D.1.length (totN (cfN D)) r (l ++ [x]) st) = SF1
    generalize hSF2 : (fun (st : Nat × List Nat) (x : Nat) => if x ∈ l then st else enF D.1.length (totN (coN D C e)) r (l ++ [x]) st) = SF2
    have loop : ∀ u i v2 f2 x1 x2, i + u = D.1.length → agV [44, 45] v v2 → agF [42, 43] f f2 → Lst l (f2 42) → BS1 v2 f2 x1 → BS2 v2 x2.1 → x1 = (List.range i).foldl SF1 s1 → x2 = (List.range i).foldl SF2 s2 → ∀ l6 l7, G E mX8_fetches (d + (r + 1) + 3) 0 0 A Q 0 0 128 [some (.ref (b 0)), some (.int (nI l.length)), some (.int (nI (bset l))), some (.int (nI (totN (cwN D) l))), some (.int (nI (totN (coN D C e) l))), some (.int (nI i)), l6, l7] [] (mW E b v2 t f2) := by
      intro u
      induction u with
      | zero =>
        intro i v2 f2 x1 x2 hi h1 h2 h3 h4 h4b h5 h5b l6 l7
        have ei := t_nI (n := i) (by omega)
        have e12 : (v2 12).toInt = D.1.length := by rw [h1.at 12 rfl, hM.1, t_nI (by omega)]
        refine g_iload5 dX8_fetches_128 (g_aload0 dX8_fetches_130 (g_mget fl_X8_103 mg_12 dX8_fetches_131 (g_icmp_ge (tgt := 250) dX8_fetches_134 (by decide) (fun h134 => g_vret rfl dX8_fetches_250 (Nat.le_of_ble_eq_true rfl) (Nat.le_of_ble_eq_true rfl) ?q250_8) (fun h134 => ?s137_8))))
        case s137_8 => omega
        case q250_8 =>
          refine hQ _ ⟨v2, f2, rfl, h1, h2, h3, ?_, ?_⟩
          · rw [enF, hSF1, show D.1.length = i by omega, ← h5]
            exact h4
          · rw [enF, hSF2, show D.1.length = i by omega, ← h5b]
            exact h4b
      | succ u ihu =>
        intro i v2 f2 x1 x2 hi h1 h2 h3 h4 h4b h5 h5b l6 l7
        have ei := t_nI (n := i) (by omega)
        have e12 : (v2 12).toInt = D.1.length := by rw [h1.at 12 rfl, hM.1, t_nI (by omega)]
        have sb := sbit (bset l) hbs i (by omega)
        rw [bset_bit] at sb
        have hn1 : (List.range (i + 1)).foldl SF1 s1 = SF1 x1 i := by rw [List.range_succ, List.foldl_append, ← h5]; rfl
        have hn2 : (List.range (i + 1)).foldl SF2 s2 = SF2 x2 i := by rw [List.range_succ, List.foldl_append, ← h5b]; rfl
        have hS1 : SF1 x1 i = if i ∈ l then x1 else enF D.1.length (totN (cfN D)) r (l ++ [i]) x1 := by rw [← hSF1]
        have hS2 : SF2 x2 i = if i ∈ l then x2 else enF D.1.length (totN (coN D C e)) r (l ++ [i]) x2 := by rw [← hSF2]
        by_cases hil : i ∈ l
        · rw [decide_eq_true hil, if_pos rfl] at sb
          have e1 : (nI 1).toInt = 1 := by decide
          rw [if_pos hil] at hS1 hS2
          refine g_iload5 dX8_fetches_128 (g_aload0 dX8_fetches_130 (g_mget fl_X8_103 mg_12 dX8_fetches_131 (g_icmp_ge (tgt := 250) dX8_fetches_134 (by decide) (fun h134 => ?s250_9) (fun h134 => g_iload2 dX8_fetches_137 (g_iload5 dX8_fetches_138 (g_ishr dX8_fetches_140 (g_iconst ki_1 dX8_fetches_141 (g_iand dX8_fetches_142 (g_if_ne (tgt := 244) dX8_fetches_143 (by decide) (fun h143 => g_iinc5 ki_1 dX8_fetches_244 rfl rfl (g_goto (tgt := 128) dX8_fetches_247 (by decide) (?s128_9))) (fun h143 => ?s146_9))))))))))
          all_goals try rw [sb] at h143
          case s250_9 => omega
          case s146_9 => omega
          case s128_9 =>
            rw [nI_1]
            exact ihu (i + 1) v2 f2 x1 x2 (by omega) h1 h2 h3 h4 h4b (by rw [hn1, hS1]) (by rw [hn2, hS2]) _ _
        · rw [decide_eq_false hil, if_neg (by decide)] at sb
          have e0 : (nI 0).toInt = 0 := by decide
          rw [if_neg hil] at hS1 hS2
          have hnd2 : (l ++ [i]).Nodup := by
            rw [List.nodup_append]
            exact ⟨hnd, by simp, fun a ha c hc => by rw [List.mem_singleton.mp hc]; exact fun q => hil (q ▸ ha)⟩
          have hlt2 : ∀ y ∈ l ++ [i], y < D.1.length := by
            intro y hy
            rcases List.mem_append.mp hy with q | q
            · exact hlt y q
            · rw [List.mem_singleton.mp q]; omega
          have hll : (l ++ [i]).length = l.length + 1 := by rw [List.length_append]; rfl
          have hag2 : agF [42, 43] f (updA f2 42 (upd (f2 42) l.length (nI i))) := h2.up 42 _ rfl
          have hL2 : Lst (l ++ [i]) (updA f2 42 (upd (f2 42) l.length (nI i)) 42) := by rw [updA_s]; exact h3.push i
          have hc1 : totN (cwN D) (l ++ [i]) = totN (cwN D) l + cwN D l i := totN_snoc _ _ _
          have hc2 : totN (coN D C e) (l ++ [i]) = totN (coN D C e) l + coN D C e l i := totN_snoc _ _ _
          have h10 : ∀ x, x < D.1.length → updA f2 42 (upd (f2 42) l.length (nI i)) 10 x = nI (hoN D x) := by
            intro x hx
            rw [updA_o (by decide), h2.at 10 rfl]
            exact hM.2.2.2.2.1.at (getD_at (by omega))
          have h46 : updA f2 42 (upd (f2 42) l.length (nI i)) 46 = f 46 := by rw [updA_o (by decide), h2.at 46 rfl]
          have call : ∀ (cw co : Nat) (l6 l7 : Option Value), cw = cwN D l i → co = coN D C e l i → l6 = some (.int (nI cw)) → l7 = some (.int (nI co)) → G E mX8_fetches (d + (r + 1) + 3) 0 0 A Q 0 0 222 [some (.ref (b 0)), some (.int (nI l.length)), some (.int (nI (bset l))), some (.int (nI (totN (cwN D) l))), some (.int (nI (totN (coN D C e) l))), some (.int (nI i)), l6, l7] [] (mW E b v2 t (updA f2 42 (upd (f2 42) l.length (nI i)))) := by
            intro cw co l6 l7 hcw2 hco2 hl6 hl7
            subst hl6 hl7
            generalize hf3 : updA f2 42 (upd (f2 42) l.length (nI i)) = f3 at *
            refine g_aload0 dX8_fetches_222 (g_iload1 dX8_fetches_223 (g_iconst ki_1 dX8_fetches_224 (g_iadd dX8_fetches_225 (g_iload2 dX8_fetches_226 (g_iconst ki_1 dX8_fetches_227 (g_iload5 dX8_fetches_228 (g_ishl dX8_fetches_230 (g_ior dX8_fetches_231 (g_iload3 dX8_fetches_232 (g_iload6 dX8_fetches_233 (g_iadd dX8_fetches_235 (g_iload4 dX8_fetches_236 (g_iload7 dX8_fetches_238 (g_iadd dX8_fetches_240 (?c241_10)))))))))))))))
            rw [nI_1, bit_nI (by omega), or_nI, ← bset_snoc, nI_add, nI_add, hcw2, hco2, ← hc1, ← hc2, ← hll]
            refine g_V4v dX8_fetches_241 mv_X8_333 0 rfl rfl rfl (Nat.le_of_ble_eq_true rfl) (Nat.le_of_ble_eq_true rfl) (ih (l ++ [i]) x1 x2 v2 t f3 (by omega) hnd2 hlt2 (hM.ag h1 hag2 rfl rfl) hL2 (by rw [h46]; exact hO) ⟨h4.1, by rw [← hf3, updA_o (by decide)]; exact h4.2.1, h4.2.2⟩ h4b) (fun w1 hq => ?_)
            obtain ⟨v3, f4, rfl, g1, g2, g3, g4, g5⟩ := hq
            refine g_iinc5 ki_1 dX8_fetches_244 rfl rfl (g_goto (tgt := 128) dX8_fetches_247 (by decide) (?s128_11))
            rw [nI_1]
            exact ihu (i + 1) v3 f4 _ _ (by omega) (h1.tr g1) (hag2.tr g2) g3.pre g4 g5 (by rw [hn1, hS1]) (by rw [hn2, hS2]) _ _
          by_cases hl0 : l = []
          · have hlz : l.length = 0 := by rw [hl0]; rfl
            have hcw0 : hoN D i = cwN D l i := by unfold cwN; rw [if_pos hl0]
            have hco0 : 0 = coN D C e l i := by unfold coN cstN; rw [if_pos hl0]; split <;> rfl
            have h10i := h10 i (by omega)
            have hcall := call (hoN D i) 0 _ _ hcw0 hco0 rfl rfl
            rw [hlz] at hcall h10i ⊢
            have ez : (nI 0).toInt.toNat = 0 := by decide
            refine g_iload5 dX8_fetches_128 (g_aload0 dX8_fetches_130 (g_mget fl_X8_103 mg_12 dX8_fetches_131 (g_icmp_ge (tgt := 250) dX8_fetches_134 (by decide) (fun h134 => ?s250_12) (fun h134 => g_iload2 dX8_fetches_137 (g_iload5 dX8_fetches_138 (g_ishr dX8_fetches_140 (g_iconst ki_1 dX8_fetches_141 (g_iand dX8_fetches_142 (g_if_ne (tgt := 244) dX8_fetches_143 (by decide) (fun h143 => ?s244_12) (fun h143 => g_aload0 dX8_fetches_146 (g_mget fl_X8_65 mg_42 dX8_fetches_147 (g_iload1 dX8_fetches_150 (g_iload5 dX8_fetches_151 (g_mis ma_42 mas_42 dX8_fetches_153 ?b153_12 (g_iload1 dX8_fetches_154 (g_if_ne (tgt := 168) dX8_fetches_155 (by decide) (fun h155 => ?s168_12) (fun h155 => g_aload0 dX8_fetches_158 (g_mget fl_X8_32 mg_10 dX8_fetches_159 (g_iload5 dX8_fetches_162 (g_mia ma_10 dX8_fetches_164 ?b164_12 (g_goto (tgt := 191) dX8_fetches_165 (by decide) (g_istore6 dX8_fetches_191 rfl rfl (g_iload1 dX8_fetches_193 (g_if_ne (tgt := 201) dX8_fetches_194 (by decide) (fun h194 => ?s201_12) (fun h194 => g_iconst ki_0 dX8_fetches_197 (g_goto (tgt := 220) dX8_fetches_198 (by decide) (g_istore7 dX8_fetches_220 rfl rfl (?s222_12))))))))))))))))))))))))))))
            all_goals try rw [sb] at h143
            all_goals try rw [ez, ei, Int.toNat_natCast, h10i]
            case s222_12 => exact hcall
            all_goals omega
          · have hlz : 0 < l.length := List.length_pos_iff.mpr hl0
            have gl := getD_at (l := l) (i := l.length - 1) (by omega)
            have hlast : l.getLastD 0 = l.getD (l.length - 1) 0 := by
              rw [List.getLastD_eq_getLast?, List.getLast?_eq_getElem?, List.getD_eq_getElem?_getD]
            have hll2 := hlt _ (List.mem_of_getElem? gl)
            have hne : l.getD (l.length - 1) 0 ≠ i := fun q => hil (q ▸ List.mem_of_getElem? gl)
            have hcw0 : hdN D (l.getD (l.length - 1) 0) i = cwN D l i := by unfold cwN; rw [if_neg hl0, hlast]
            have hco0 : prW D C e (l.getD (l.length - 1) 0) i = coN D C e l i := by unfold coN cstN; rw [if_neg hl0, hlast]; split <;> rfl
            have hcall := call _ _ _ _ hcw0 hco0 rfl rfl
            have h10i := h10 i (by omega)
            have h10l := h10 _ hll2
            have hOl : updA f2 42 (upd (f2 42) l.length (nI i)) 46 (6 * l.getD (l.length - 1) 0 + i) = nI (prW D C e (l.getD (l.length - 1) 0) i) := by rw [h46]; exact hO _ _ hll2 (by omega) hne
            have hwl : updA f2 42 (upd (f2 42) l.length (nI i)) 42 (l.length - 1) = nI (l.getD (l.length - 1) 0) := by
              rw [updA_s, upd_o (by omega)]; exact h3.at gl
            have e1 : (nI l.length - 1).toInt = ((l.length - 1 : Nat) : Int) := by rw [t_sub (by rw [tc_1]; omega) (by rw [tc_1]; omega), el, tc_1]; omega
            have ell := t_nI (n := l.getD (l.length - 1) 0) (by omega)
            have ho1 := ho_le hD (x := i) (by omega)
            have ho2 := ho_le hD hll2
            have e6 : (6 * nI (l.getD (l.length - 1) 0) + nI i).toInt = ((6 * l.getD (l.length - 1) 0 + i : Nat) : Int) := by
              have : (6 : Int32) * nI (l.getD (l.length - 1) 0) = nI (6 * l.getD (l.length - 1) 0) := by rw [← pk_mul]; rfl
              rw [this, nI_add, t_nI (by omega)]
            have hoff : (if (nI (hoN D i)).toInt < (nI (hoN D (l.getD (l.length - 1) 0))).toInt then nI (hoN D (l.getD (l.length - 1) 0)) - nI (hoN D i) else nI (hoN D i) - nI (hoN D (l.getD (l.length - 1) 0))) = nI (hdN D (l.getD (l.length - 1) 0) i) := by
              rw [nI_off (by omega) (by omega)]
              congr 1
              unfold hdN absN
              split <;> split <;> omega
            refine g_iload5 dX8_fetches_128 (g_aload0 dX8_fetches_130 (g_mget fl_X8_103 mg_12 dX8_fetches_131 (g_icmp_ge (tgt := 250) dX8_fetches_134 (by decide) (fun h134 => ?s250_13) (fun h134 => g_iload2 dX8_fetches_137 (g_iload5 dX8_fetches_138 (g_ishr dX8_fetches_140 (g_iconst ki_1 dX8_fetches_141 (g_iand dX8_fetches_142 (g_if_ne (tgt := 244) dX8_fetches_143 (by decide) (fun h143 => ?s244_13) (fun h143 => g_aload0 dX8_fetches_146 (g_mget fl_X8_65 mg_42 dX8_fetches_147 (g_iload1 dX8_fetches_150 (g_iload5 dX8_fetches_151 (g_mis ma_42 mas_42 dX8_fetches_153 ?b153_13 (g_iload1 dX8_fetches_154 (g_if_ne (tgt := 168) dX8_fetches_155 (by decide) (fun h155 => g_aload0 dX8_fetches_168 (g_mget fl_X8_32 mg_10 dX8_fetches_169 (g_iload5 dX8_fetches_172 (g_mia ma_10 dX8_fetches_174 ?b174_13 (g_aload0 dX8_fetches_175 (g_mget fl_X8_32 mg_10 dX8_fetches_176 (g_aload0 dX8_fetches_179 (g_mget fl_X8_65 mg_42 dX8_fetches_180 (g_iload1 dX8_fetches_183 (g_iconst ki_1 dX8_fetches_184 (g_isub dX8_fetches_185 (g_mia ma_42 dX8_fetches_186 ?b186_13 (g_mia ma_10 dX8_fetches_187 ?b187_13 (r_X8_off hN mv_X8_255 dX8_fetches_188 (Nat.le_of_ble_eq_true rfl) (Nat.le_of_ble_eq_true rfl) rfl (g_istore6 dX8_fetches_191 rfl rfl (g_iload1 dX8_fetches_193 (g_if_ne (tgt := 201) dX8_fetches_194 (by decide) (fun h194 => g_aload0 dX8_fetches_201 (g_mget fl_X8_71 mg_46 dX8_fetches_202 (g_bipush kb_6 dX8_fetches_205 (g_aload0 dX8_fetches_207 (g_mget fl_X8_65 mg_42 dX8_fetches_208 (g_iload1 dX8_fetches_211 (g_iconst ki_1 dX8_fetches_212 (g_isub dX8_fetches_213 (g_mia ma_42 dX8_fetches_214 ?b214_13 (g_imul dX8_fetches_215 (g_iload5 dX8_fetches_216 (g_iadd dX8_fetches_218 (g_mia ma_46 dX8_fetches_219 ?b219_13 (g_istore7 dX8_fetches_220 rfl rfl (?s222_13))))))))))))))) (fun h194 => ?s197_13)))))))))))))))))) (fun h155 => ?s158_13)))))))))))))))))
            case s250_13 => omega
            case s244_13 => rw [sb] at h143; omega
            case s158_13 => omega
            case s197_13 => omega
            case b153_13 => omega
            case b174_13 => omega
            case b186_13 => omega
            case b187_13 => rw [el, Int.toNat_natCast, e1, Int.toNat_natCast, hwl]; omega
            case b214_13 => omega
            case b219_13 => rw [el, Int.toNat_natCast, e1, Int.toNat_natCast, hwl, e6]; show _ ∧ _ < (36 : Int); omega
            case s222_13 =>
              rw [el, Int.toNat_natCast, e1, Int.toNat_natCast, hwl, e6, Int.toNat_natCast, hOl, ell, ei, Int.toNat_natCast, Int.toNat_natCast, h10l, h10i, hoff]
              exact hcall
    refine g_iload1 dX8_fetches_0 (g_aload0 dX8_fetches_1 (g_mget fl_X8_103 mg_12 dX8_fetches_2 (g_icmp_ne (tgt := 125) dX8_fetches_5 (by decide) (fun h5 => g_iconst ki_0 dX8_fetches_125 (g_istore5 dX8_fetches_126 rfl rfl (?s128_14))) (fun h5 => ?s8_14))))
    case s8_14 =>
      have e12 : (v 12).toInt = D.1.length := by rw [hM.1, t_nI (by omega)]
      omega
    case s128_14 => exact loop D.1.length 0 v f s1 s2 (by omega) agV.rf agF.rf hLw hB1 hB2 rfl rfl _ _
end S96
