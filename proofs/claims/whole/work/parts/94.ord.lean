/-! the model: the best order -/
abbrev mK6 : List Nat := [16, 17, 18, 19, 20, 21, 22, 23, 24, 25, 26, 28, 29, 30, 37]
theorem TB.ag {B : List Nat} {ti : Nat} {S : List Nat} {f f' : Nat → Nat → Int32} (h : TB B ti f) (h2 : agF S f f') (q1 : S.contains 1 = false) (q2 : S.contains 2 = false) : TB B ti f' := by
  obtain ⟨q3, q4, q5, q6⟩ := h
  exact ⟨q3, q4, by rw [h2.at 2 q2]; exact q5, by rw [h2.at 1 q1]; exact q6⟩
theorem Lst.pre {l l2 : List Nat} {F : Nat → Int32} (h : Lst (l ++ l2) F) : Lst l F := by
  intro i x hi
  have := (List.getElem?_eq_some_iff.mp hi).1
  exact h i x (by rw [List.getElem?_append_left this]; exact hi)
def boI (k : Nat) : Int32 := if k = 2147483647 then -1 else nI k
def BSt (v : Nat → Int32) (f : Nat → Nat → Int32) (st : Nat × List Nat) : Prop := v 37 = boI st.1 ∧ Lst st.2 (f 36) ∧ st.1 ≤ 2147483647
theorem MD.ag2 {S1 S2 : List Nat} {v v' : Nat → Int32} {f f' : Nat → Nat → Int32} {D : Dg} (h : MD v f D) (h1 : agV S1 v v') (h2 : agF S2 f f') (q1 : S1.contains 12 = false) (q2 : [7, 8, 9, 10].all (fun j => !S2.contains j) = true) {O : List Nat} (hO : Lst O (f' 11)) : MD v' f' (dgO D O) := by
  have q3 : ∀ j ∈ [7, 8, 9, 10], S2.contains j = false := fun j hj => by
    have := List.all_eq_true.mp q2 j hj
    simpa using this
  unfold MD
  rw [h1.at 12 q1, h2.at 7 (q3 7 (by decide)), h2.at 8 (q3 8 (by decide)), h2.at 9 (q3 9 (by decide)), h2.at 10 (q3 10 (by decide))]
  exact ⟨h.1, h.2.1, h.2.2.1, h.2.2.2.1, h.2.2.2.2.1, hO⟩
section S94
variable {E : GE} {d : Nat} {b : Nat → Nat} {v : Nat → Int32} {t : Int64} {f : Nat → Nat → Int32} {D : Dg} {B : List Nat} {C : List Int32} {e : Nat → Nat} {ru : Nat}
set_option maxRecDepth 20000 in
set_option maxHeartbeats 4000000 in
theorem c_X8_atOddsNow (hN : g_N E) (hD : dgOK D) (hM : MD v f D) (hr : v 4 = nI ru) (hr6 : ru < 6) (hTB : TB B ru f) (hX : TX B C e) : g_Ci E mX8_atOddsNow (d + 65) [.ref (b 0)] (mW E b v t f) (fun z w => z.toInt = oddsF D C e (D.1.length - 1) ∧ ∃ v' t', w = mW E b v' t' f ∧ agV mK3 v v') := by
  obtain ⟨hn, l1, l2, l3, l4, b1, b2, b3, b4, b5, hnd⟩ := id hD
  refine g_enterI hN.1 (by decide) [some (.ref (b 0)), none, none] rfl (Nat.le_of_ble_eq_true rfl) (fun A Q hQ => ?_)
  have tc0 := tc_0; have tc1 := tc_1
  have loop : ∀ u i (z : Int32) v2 t2, i + u = D.1.length - 1 → z.toInt = oddsF D C e i → agV mK3 v v2 → G E mX8_atOddsNow (d + 65) 0 0 A Q 0 0 4 [some (.ref (b 0)), some (.int z), some (.int (nI i))] [] (mW E b v2 t2 f) := by
    intro u
    induction u with
    | zero =>
      intro i z v2 t2 hi hz hag
      have ei : (nI i + 1).toInt = (i : Int) + 1 := by rw [nI_1, t_nI (by omega)]; omega
      have e12 : (v2 12).toInt = D.1.length := by rw [hag.at 12 rfl, hM.1, t_nI (by omega)]
      refine g_iload2 dX8_atOddsNow_4 (g_iconst ki_1 dX8_atOddsNow_5 (g_iadd dX8_atOddsNow_6 (g_aload0 dX8_atOddsNow_7 (g_mget fl_X8_103 mg_12 dX8_atOddsNow_8 (g_icmp_ge (tgt := 42) dX8_atOddsNow_11 (by decide) (fun h11 => g_iload1 dX8_atOddsNow_42 (g_iret rfl dX8_atOddsNow_43 (Nat.le_of_ble_eq_true rfl) (Nat.le_of_ble_eq_true rfl) ?q43)) (fun h11 => ?s14))))))
      case s14 => omega
      case q43 => exact hQ _ _ ⟨by rw [hz, show i = D.1.length - 1 by omega], v2, t2, rfl, hag⟩
    | succ u ih =>
      intro i z v2 t2 hi hz hag
      have ei : (nI i + 1).toInt = (i : Int) + 1 := by rw [nI_1, t_nI (by omega)]; omega
      have ei0 := t_nI (n := i) (by omega)
      have ei1 := t_nI (n := i + 1) (by omega)
      have e12 : (v2 12).toInt = D.1.length := by rw [hag.at 12 rfl, hM.1, t_nI (by omega)]
      have g0 := getD_at (l := D.2.2.2.2) (i := i) (by omega)
      have g1 := getD_at (l := D.2.2.2.2) (i := i + 1) (by omega)
      have h0 := b5 _ (List.mem_of_getElem? g0)
      have h1 := b5 _ (List.mem_of_getElem? g1)
      have hb := oddsF_b D C e i
      have hb2 := oddsF_b D C e (i + 1)
      have hs : oddsF D C e (i + 1) = oddsF D C e i + rhI D C e 0 (D.2.2.2.2.getD i 0) (D.2.2.2.2.getD (i + 1) 0) := rfl
      refine g_iload2 dX8_atOddsNow_4 (g_iconst ki_1 dX8_atOddsNow_5 (g_iadd dX8_atOddsNow_6 (g_aload0 dX8_atOddsNow_7 (g_mget fl_X8_103 mg_12 dX8_atOddsNow_8 (g_icmp_ge (tgt := 42) dX8_atOddsNow_11 (by decide) (fun h11 => ?s42_2) (fun h11 => g_iload1 dX8_atOddsNow_14 (g_aload0 dX8_atOddsNow_15 (g_iconst ki_0 dX8_atOddsNow_16 (g_aload0 dX8_atOddsNow_17 (g_mget fl_X8_35 mg_11 dX8_atOddsNow_18 (g_iload2 dX8_atOddsNow_21 (g_mia ma_11 dX8_atOddsNow_22 ?b22_2 (g_aload0 dX8_atOddsNow_23 (g_mget fl_X8_35 mg_11 dX8_atOddsNow_24 (g_iload2 dX8_atOddsNow_27 (g_iconst ki_1 dX8_atOddsNow_28 (g_iadd dX8_atOddsNow_29 (g_mia ma_11 dX8_atOddsNow_30 ?b30_2 (?c31_2)))))))))))))))))))
      case s42_2 => omega
      case b22_2 => omega
      case b30_2 => omega
      case c31_2 =>
        rw [nI_1, ei0, ei1, Int.toNat_natCast, Int.toNat_natCast, hM.2.2.2.2.2.at g0, hM.2.2.2.2.2.at g1]
        refine g_V3i dX8_atOddsNow_31 mv_X8_266 0 rfl rfl rfl (Nat.le_of_ble_eq_true rfl) (Nat.le_of_ble_eq_true rfl) (c_X8_told2 (d := d) (part := 0) hN hD (hM.ag (S2 := []) hag agF.rf rfl rfl) (by rw [hag.at 4 rfl]; exact hr) hr6 hTB hX (by omega) h0 h1) (fun z1_ w1 hq => ?_)
        obtain ⟨hz1, v3, t3, rfl, h3⟩ := hq
        refine g_iadd dX8_atOddsNow_34 (g_istore1 dX8_atOddsNow_35 rfl rfl (g_iinc2 ki_1 dX8_atOddsNow_36 rfl rfl (g_goto (tgt := 4) dX8_atOddsNow_39 (by decide) (?s4_3))))
        rw [nI_1]
        refine ih (i + 1) _ v3 t3 (by omega) ?_ (hag.tr h3)
        rw [t_add (by omega) (by omega), hz, hz1, hs]
  refine g_iconst ki_0 dX8_atOddsNow_0 (g_istore1 dX8_atOddsNow_1 rfl rfl (g_iconst ki_0 dX8_atOddsNow_2 (g_istore2 dX8_atOddsNow_3 rfl rfl (?s4_4))))
  exact loop (D.1.length - 1) 0 0 v t (by omega) (by show (0 : Int32).toInt = 0; decide) agV.rf
set_option maxRecDepth 20000 in
set_option maxHeartbeats 8000000 in
theorem c_X8_orders (hN : g_N E) (hD : dgOK D) (hr6 : ru < 6) (hX : TX B C e) : ∀ (r : Nat) (l : List Nat) (st : Nat × List Nat) (v : Nat → Int32) (t : Int64) (f : Nat → Nat → Int32), l.length + r = D.1.length → l.Nodup → (∀ y ∈ l, y < D.1.length) → MD v f (dgO D l) → v 4 = nI ru → TB B ru f → BSt v f st → g_Cv E mX8_orders (d + 66 + r) [.ref (b 0), .int (nI l.length), .int (nI (bset l))] (mW E b v t f) (fun w => ∃ v' t' f', w = mW E b v' t' f' ∧ agV mK6 v v' ∧ agF [11, 36] f f' ∧ MD v' f' (dgO D l) ∧ BSt v' f' (enF D.1.length (totN (cstN D.1.length (prB D C e) (fun _ => 0))) r l st)) := by
  obtain ⟨hn, l1, l2, l3, l4, b1, b2, b3, b4, b5, hnd0⟩ := id hD
  intro r
  induction r with
  | zero =>
    intro l st v t f hl hnd hlt hM hr hTB hB
    have hD2 : dgOK (dgO D l) := ⟨hn, l1, l2, l3, (by show l.length = D.1.length; omega), b1, b2, b3, b4, hlt, hnd⟩
    have e12 : (v 12).toInt = D.1.length := by rw [hM.1, t_nI (by show D.1.length < _; omega)]
    have el := t_nI (n := l.length) (by omega)
    obtain ⟨B1, B2, B3⟩ := id hB
    refine g_enterV hN.1 (by decide) [some (.ref (b 0)), some (.int (nI l.length)), some (.int (nI (bset l))), none, none] rfl (Nat.le_of_ble_eq_true rfl) (fun A Q hQ => ?_)
    have tcm1 := tc_m1; have tc0 := tc_0; have tc1 := tc_1
    have copy : ∀ u i v2 t2 f2 (l3 : Int32), i + u = D.1.length → agV mK6 v v2 → agF [36] f f2 → (∀ j, j < i → f2 36 j = f 11 j) → v2 37 = boI (totN (cstN D.1.length (prB D C e) (fun _ => 0)) l) → totN (cstN D.1.length (prB D C e) (fun _ => 0)) l < st.1 → G E mX8_orders (d + 66 + 0) 0 0 A Q 0 0 37 [some (.ref (b 0)), some (.int (nI l.length)), some (.int (nI (bset l))), some (.int l3), some (.int (nI i))] [] (mW E b v2 t2 f2) := by
      intro u
      induction u with
      | zero =>
        intro i v2 t2 f2 l3 hi h1 h2 h3 h4 h5
        have ei := t_nI (n := i) (by omega)
        have e12 : (v2 12).toInt = D.1.length := by rw [h1.at 12 rfl, hM.1, t_nI (by show D.1.length < _; omega)]
        refine g_iload4 dX8_orders_37 (g_aload0 dX8_orders_39 (g_mget fl_X8_103 mg_12 dX8_orders_40 (g_icmp_ge (tgt := 66) dX8_orders_43 (by decide) (fun h43 => g_vret rfl dX8_orders_66 (Nat.le_of_ble_eq_true rfl) (Nat.le_of_ble_eq_true rfl) ?q66) (fun h43 => ?s46))))
        case s46 => omega
        case q66 =>
          refine hQ _ ⟨v2, t2, f2, rfl, h1, h2.wk rfl, hM.ag h1 h2 rfl rfl, ?_⟩
          rw [enF, if_pos h5]
          refine ⟨h4, ?_, by dsimp only; omega⟩
          intro j x hj
          have : j < l.length := (List.getElem?_eq_some_iff.mp hj).1
          rw [h3 j (by omega)]
          exact hM.2.2.2.2.2 j x hj
      | succ u ih =>
        intro i v2 t2 f2 l3 hi h1 h2 h3 h4 h5
        have ei := t_nI (n := i) (by omega)
        have e12 : (v2 12).toInt = D.1.length := by rw [h1.at 12 rfl, hM.1, t_nI (by show D.1.length < _; omega)]
        refine g_iload4 dX8_orders_37 (g_aload0 dX8_orders_39 (g_mget fl_X8_103 mg_12 dX8_orders_40 (g_icmp_ge (tgt := 66) dX8_orders_43 (by decide) (fun h43 => ?s66_2) (fun h43 => g_aload0 dX8_orders_46 (g_mget fl_X8_56 mg_36 dX8_orders_47 (g_iload4 dX8_orders_50 (g_aload0 dX8_orders_52 (g_mget fl_X8_35 mg_11 dX8_orders_53 (g_iload4 dX8_orders_56 (g_mia ma_11 dX8_orders_58 ?b58_2 (g_mis ma_36 mas_36 dX8_orders_59 ?b59_2 (g_iinc4 ki_1 dX8_orders_60 rfl rfl (g_goto (tgt := 37) dX8_orders_63 (by decide) (?s37_2))))))))))))))
        case s66_2 => omega
        case s37_2 =>
          rw [ei, Int.toNat_natCast, nI_1, h2.at 11 rfl]
          refine ih (i + 1) _ _ _ _ (by omega) h1 (h2.up 36 _ rfl) ?_ h4 h5
          intro j hj
          rw [updA_s]
          by_cases hji : j = i
          · rw [hji, upd_s]
          · rw [upd_o hji]; exact h3 j (by omega)
        all_goals omega
    refine g_iload1 dX8_orders_0 (g_aload0 dX8_orders_1 (g_mget fl_X8_103 mg_12 dX8_orders_2 (g_icmp_ne (tgt := 67) dX8_orders_5 (by decide) (fun h5 => ?s67_3) (fun h5 => g_aload0 dX8_orders_8 (?c9_3)))))
    case s67_3 => omega
    case c9_3 =>
      refine g_V0i dX8_orders_9 mv_X8_287 0 rfl rfl rfl (Nat.le_of_ble_eq_true rfl) (Nat.le_of_ble_eq_true rfl) (c_X8_atOddsNow (d := d) hN hD2 hM hr hr6 hTB hX) (fun z1_ w1 hq => ?_)
      obtain ⟨hz, v2, t2, rfl, h1⟩ := hq
      have h1' : agV mK6 v v2 := h1.wk rfl
      have hT : (oddsF (dgO D l) C e (D.1.length - 1)) = (totN (cstN D.1.length (prB D C e) (fun _ => 0)) l : Nat) := by
        by_cases h0 : D.1.length = 0
        · have : l = [] := List.length_eq_zero_iff.mp (by omega)
          subst this
          rw [h0]; rfl
        · rw [leaf_odds hD C e (by omega) hnd hlt (D.1.length - 1) (by omega)]
          unfold totN
          rw [show D.1.length - 1 + 1 = l.length by omega]
      have hob := oddsF_b (dgO D l) C e (D.1.length - 1)
      have hz' : z1_ = nI (totN (cstN D.1.length (prB D C e) (fun _ => 0)) l) := by
        rw [t_of (a := z1_) (by rw [hz]; exact hob.1)]
        congr 1
        have hdl : (dgO D l).1 = D.1 := rfl
        rw [hdl] at hz
        omega
      have hTb : totN (cstN D.1.length (prB D C e) (fun _ => 0)) l < 2147483647 := by omega
      generalize hTT : totN (cstN D.1.length (prB D C e) (fun _ => 0)) l = TT at *
      have eT := t_nI (n := TT) (by omega)
      have hz1' : z1_.toInt = TT := by rw [hz', eT]
      have e37 : (v2 37).toInt = (boI st.1).toInt := by rw [h1.at 37 rfl, B1]
      have hbo : TT < st.1 ↔ (boI st.1).toInt = -1 ∨ (TT : Int) < (boI st.1).toInt := by
        unfold boI
        by_cases h : st.1 = 2147483647
        · rw [if_pos h]
          have : (-1 : Int32).toInt = -1 := by decide
          omega
        · rw [if_neg h, t_nI (by omega)]
          omega
      have yes : TT < st.1 → G E mX8_orders (d + 66 + 0) 0 0 A Q 0 0 29 [some (.ref (b 0)), some (.int (nI l.length)), some (.int (nI (bset l))), some (.int z1_), none] [] (mW E b v2 t2 f) := by
        intro h
        refine g_aload0 dX8_orders_29 (g_iload3 dX8_orders_30 (g_mput fl_X8_290 fp_7_37 ms_37 rfl rfl rfl dX8_orders_31 (g_iconst ki_0 dX8_orders_34 (g_istore4 dX8_orders_35 rfl rfl (?s37_4)))))
        refine copy D.1.length 0 _ _ _ _ (by omega) (h1'.up 37 _ rfl) agF.rf (fun j hj => absurd hj (Nat.not_lt_zero j)) ?_ h
        rw [upd_s, hz']
        unfold boI
        rw [if_neg (by omega)]
      have no : ¬ TT < st.1 → Q none (mW E b v2 t2 f) := by
        intro h
        refine hQ _ ⟨v2, t2, f, rfl, h1', agF.rf, hM.ag (S2 := []) h1' agF.rf rfl rfl, ?_⟩
        rw [enF, hTT, if_neg h]
        exact ⟨by rw [h1.at 37 rfl]; exact B1, B2, B3⟩
      refine g_istore3 dX8_orders_12 rfl rfl (g_aload0 dX8_orders_13 (g_mget fl_X8_290 mg_37 dX8_orders_14 (g_iconst ki_m1 dX8_orders_17 (g_icmp_eq (tgt := 29) dX8_orders_18 (by decide) (fun h18 => ?s29_5) (fun h18 => g_iload3 dX8_orders_21 (g_aload0 dX8_orders_22 (g_mget fl_X8_290 mg_37 dX8_orders_23 (g_icmp_ge (tgt := 66) dX8_orders_26 (by decide) (fun h26 => g_vret rfl dX8_orders_66 (Nat.le_of_ble_eq_true rfl) (Nat.le_of_ble_eq_true rfl) ?q66_5) (fun h26 => ?s29_5')))))))))
      case s29_5 => exact yes (by omega)
      case q66_5 => exact no (by omega)
      case s29_5' => exact yes (by omega)
  | succ r ih =>
    intro l st v t f hl hnd hlt hM hr hTB hB
    have el := t_nI (n := l.length) (by omega)
    have e12 : (v 12).toInt = D.1.length := by rw [hM.1, t_nI (by show D.1.length < _; omega)]
    have hbs := bset_lt l (fun y hy => by have := hlt y hy; omega)
    refine g_enterV hN.1 (by decide) [some (.ref (b 0)), some (.int (nI l.length)), some (.int (nI (bset l))), none, none] rfl (Nat.le_of_ble_eq_true rfl) (fun A Q hQ => ?_)
    have tcm1 := tc_m1; have tc0 := tc_0; have tc1 := tc_1
    generalize hSF : (fun (st : Nat × List Nat) (x : Nat) => if x ∈ l then st else enF D.1.length (totN (cstN D.1.length (prB D C e) (fun _ => 0))) r (l ++ [x]) st) = SF
    have loop : ∀ u i v2 t2 f2 st2, i + u = D.1.length → agV mK6 v v2 → agF [11, 36] f f2 → MD v2 f2 (dgO D l) → BSt v2 f2 st2 → st2 = (List.range i).foldl SF st → ∀ l4, G E mX8_orders (d + 66 + (r + 1)) 0 0 A Q 0 0 69 [some (.ref (b 0)), some (.int (nI l.length)), some (.int (nI (bset l))), some (.int (nI i)), l4] [] (mW E b v2 t2 f2) := by
      intro u
      induction u with
      | zero =>
        intro i v2 t2 f2 st2 hi h1 h2 h3 h4 h5 l4
        have ei := t_nI (n := i) (by omega)
        have e12 : (v2 12).toInt = D.1.length := by rw [h3.1, t_nI (by show D.1.length < _; omega)]
        refine g_iload3 dX8_orders_69 (g_aload0 dX8_orders_70 (g_mget fl_X8_103 mg_12 dX8_orders_71 (g_icmp_ge (tgt := 110) dX8_orders_74 (by decide) (fun h74 => g_vret rfl dX8_orders_110 (Nat.le_of_ble_eq_true rfl) (Nat.le_of_ble_eq_true rfl) ?q110_6) (fun h74 => ?s77_6))))
        case s77_6 => omega
        case q110_6 =>
          refine hQ _ ⟨v2, t2, f2, rfl, h1, h2, h3, ?_⟩
          rw [enF, hSF, show D.1.length = i by omega, ← h5]
          exact h4
      | succ u ihu =>
        intro i v2 t2 f2 st2 hi h1 h2 h3 h4 h5 l4
        have ei := t_nI (n := i) (by omega)
        have e12 : (v2 12).toInt = D.1.length := by rw [h3.1, t_nI (by show D.1.length < _; omega)]
        have sb := sbit (bset l) hbs i (by omega)
        rw [bset_bit] at sb
        have hnx : (List.range (i + 1)).foldl SF st = SF st2 i := by rw [List.range_succ, List.foldl_append, ← h5]; rfl
        have hSi : SF st2 i = if i ∈ l then st2 else enF D.1.length (totN (cstN D.1.length (prB D C e) (fun _ => 0))) r (l ++ [i]) st2 := by rw [← hSF]
        by_cases hil : i ∈ l
        · rw [decide_eq_true hil, if_pos rfl] at sb
          have e1 : (nI 1).toInt = 1 := by decide
          rw [if_pos hil] at hSi
          refine g_iload3 dX8_orders_69 (g_aload0 dX8_orders_70 (g_mget fl_X8_103 mg_12 dX8_orders_71 (g_icmp_ge (tgt := 110) dX8_orders_74 (by decide) (fun h74 => ?s110_7) (fun h74 => g_iload2 dX8_orders_77 (g_iload3 dX8_orders_78 (g_ishr dX8_orders_79 (g_iconst ki_1 dX8_orders_80 (g_iand dX8_orders_81 (g_if_ne (tgt := 104) dX8_orders_82 (by decide) (fun h82 => g_iinc3 ki_1 dX8_orders_104 rfl rfl (g_goto (tgt := 69) dX8_orders_107 (by decide) (?s69_7))) (fun h82 => ?s85_7))))))))))
          all_goals try rw [sb] at h82
          case s110_7 => omega
          case s85_7 => omega
          case s69_7 =>
            rw [nI_1]
            exact ihu (i + 1) v2 t2 f2 st2 (by omega) h1 h2 h3 h4 (by rw [hnx, hSi]) _
        · rw [decide_eq_false hil, if_neg (by decide)] at sb
          have e0 : (nI 0).toInt = 0 := by decide
          rw [if_neg hil] at hSi
          have hnd2 : (l ++ [i]).Nodup := by
            rw [List.nodup_append]
            exact ⟨hnd, by simp, fun a ha c hc => by rw [List.mem_singleton.mp hc]; exact fun q => hil (q ▸ ha)⟩
          have hlt2 : ∀ y ∈ l ++ [i], y < D.1.length := by
            intro y hy
            rcases List.mem_append.mp hy with q | q
            · exact hlt y q
            · rw [List.mem_singleton.mp q]; omega
          have hll : (l ++ [i]).length = l.length + 1 := by rw [List.length_append]; rfl
          refine g_iload3 dX8_orders_69 (g_aload0 dX8_orders_70 (g_mget fl_X8_103 mg_12 dX8_orders_71 (g_icmp_ge (tgt := 110) dX8_orders_74 (by decide) (fun h74 => ?s110_8) (fun h74 => g_iload2 dX8_orders_77 (g_iload3 dX8_orders_78 (g_ishr dX8_orders_79 (g_iconst ki_1 dX8_orders_80 (g_iand dX8_orders_81 (g_if_ne (tgt := 104) dX8_orders_82 (by decide) (fun h82 => ?s104_8) (fun h82 => g_aload0 dX8_orders_85 (g_mget fl_X8_35 mg_11 dX8_orders_86 (g_iload1 dX8_orders_89 (g_iload3 dX8_orders_90 (g_mis ma_11 mas_11 dX8_orders_91 ?b91_8 (g_aload0 dX8_orders_92 (g_iload1 dX8_orders_93 (g_iconst ki_1 dX8_orders_94 (g_iadd dX8_orders_95 (g_iload2 dX8_orders_96 (g_iconst ki_1 dX8_orders_97 (g_iload3 dX8_orders_98 (g_ishl dX8_orders_99 (g_ior dX8_orders_100 (?c101_8))))))))))))))))))))))))
          all_goals try rw [sb] at h82
          case s110_8 => omega
          case s104_8 => omega
          case b91_8 => omega
          case c101_8 =>
            rw [el, Int.toNat_natCast, nI_1, bit_nI (by omega), or_nI, ← bset_snoc, ← hll]
            have hag2 : agF [11, 36] f (updA f2 11 (upd (f2 11) l.length (nI i))) := h2.up 11 _ rfl
            have hM2 : MD v2 (updA f2 11 (upd (f2 11) l.length (nI i))) (dgO D (l ++ [i])) := h3.ag2 (S1 := []) (S2 := [11]) agV.rf (agF.rf.up 11 _ rfl) rfl rfl (by rw [updA_s]; exact h3.2.2.2.2.2.push i)
            have hB2 : BSt v2 (updA f2 11 (upd (f2 11) l.length (nI i))) st2 := ⟨h4.1, by rw [updA_o (by decide)]; exact h4.2.1, h4.2.2⟩
            refine g_V2v dX8_orders_101 mv_X8_293 0 rfl rfl rfl (Nat.le_of_ble_eq_true rfl) (Nat.le_of_ble_eq_true rfl) (ih (l ++ [i]) st2 v2 t2 _ (by omega) hnd2 hlt2 hM2 (by rw [h1.at 4 rfl]; exact hr) (hTB.ag hag2 rfl rfl) hB2) (fun w1 hq => ?_)
            obtain ⟨v3, t3, f3, rfl, g1, g2, g3, g4⟩ := hq
            refine g_iinc3 ki_1 dX8_orders_104 rfl rfl (g_goto (tgt := 69) dX8_orders_107 (by decide) (?s69_9))
            rw [nI_1]
            refine ihu (i + 1) v3 t3 f3 _ (by omega) (h1.tr g1) (hag2.tr g2) ?_ g4 (by rw [hnx, hSi]) _
            exact g3.ag2 (S1 := []) (S2 := []) agV.rf agF.rf rfl rfl g3.2.2.2.2.2.pre
    refine g_iload1 dX8_orders_0 (g_aload0 dX8_orders_1 (g_mget fl_X8_103 mg_12 dX8_orders_2 (g_icmp_ne (tgt := 67) dX8_orders_5 (by decide) (fun h5 => g_iconst ki_0 dX8_orders_67 (g_istore3 dX8_orders_68 rfl rfl (?s69_10))) (fun h5 => ?s8_10))))
    case s8_10 => omega
    case s69_10 => exact loop D.1.length 0 v t f st (by omega) agV.rf agF.rf hM hB rfl _
set_option maxRecDepth 20000 in
set_option maxHeartbeats 4000000 in
theorem c_X8_bestOrder (hN : g_N E) (hD : dgOK D) (hM : MD v f D) (hr : v 4 = nI ru) (hr6 : ru < 6) (hTB : TB B ru f) (hX : TX B C e) : g_Cv E mX8_bestOrder (d + 73) [.ref (b 0)] (mW E b v t f) (fun w => ∃ v' t' f', w = mW E b v' t' f' ∧ agV mK6 v v' ∧ agF [11, 35, 36] f f' ∧ MD v' f' D ∧ v' 37 = nI (srF D.1.length (prB D C e) (fun _ => 0)).1 ∧ Lst (srF D.1.length (prB D C e) (fun _ => 0)).2 (f' 36)) := by
  obtain ⟨hn, l1, l2, l3, l4, b1, b2, b3, b4, b5, hnd0⟩ := id hD
  have hfo := sr_found hn (prB D C e) (fun _ => 0) (fun p x y _ _ _ => by
    have := rlI_0 C e (nmF D.1.length D.2.1 x y 1 (nI (if x < y then p else p + 1))) (part := 0) (by omega)
    unfold prB
    omega) (fun _ _ => Nat.zero_le _)
  have hso := srF_en hn (prB D C e) (fun _ => 0) (fun p x y _ _ _ => by
    have := rlI_0 C e (nmF D.1.length D.2.1 x y 1 (nI (if x < y then p else p + 1))) (part := 0) (by omega)
    unfold prB
    omega) (fun _ _ => Nat.zero_le _)
  refine g_enterV hN.1 (by decide) [some (.ref (b 0)), none] rfl (Nat.le_of_ble_eq_true rfl) (fun A Q hQ => ?_)
  have tcm1 := tc_m1; have tc0 := tc_0; have tc1 := tc_1
  have rest : ∀ u i v2 t2 f2, i + u = D.1.length → agV mK6 v v2 → agF [11, 35, 36] f f2 → MD v2 f2 (dgO D []) → (∀ j, j < D.1.length → f2 35 j = f 11 j) → (∀ j, j < i → f2 11 j = f 11 j) → v2 37 = nI (srF D.1.length (prB D C e) (fun _ => 0)).1 → Lst (srF D.1.length (prB D C e) (fun _ => 0)).2 (f2 36) → G E mX8_bestOrder (d + 73) 0 0 A Q 0 0 41 [some (.ref (b 0)), some (.int (nI i))] [] (mW E b v2 t2 f2) := by
    intro u
    induction u with
    | zero =>
      intro i v2 t2 f2 hi h1 h2 h3 h4 h5 h6 h7
      have ei := t_nI (n := i) (by omega)
      have e12 : (v2 12).toInt = D.1.length := by rw [h3.1, t_nI (by show D.1.length < _; omega)]
      refine g_iload1 dX8_bestOrder_41 (g_aload0 dX8_bestOrder_42 (g_mget fl_X8_103 mg_12 dX8_bestOrder_43 (g_icmp_ge (tgt := 67) dX8_bestOrder_46 (by decide) (fun h46 => g_vret rfl dX8_bestOrder_67 (Nat.le_of_ble_eq_true rfl) (Nat.le_of_ble_eq_true rfl) ?q67) (fun h46 => ?s49))))
      case s49 => omega
      case q67 =>
        refine hQ _ ⟨v2, t2, f2, rfl, h1, h2, ?_, h6, h7⟩
        refine h3.ag2 (S1 := []) (S2 := []) agV.rf agF.rf rfl rfl (O := D.2.2.2.2) ?_
        intro j x hj
        have := (List.getElem?_eq_some_iff.mp hj).1
        rw [h5 j (by omega)]
        exact hM.2.2.2.2.2 j x hj
    | succ u ih =>
      intro i v2 t2 f2 hi h1 h2 h3 h4 h5 h6 h7
      have ei := t_nI (n := i) (by omega)
      have e12 : (v2 12).toInt = D.1.length := by rw [h3.1, t_nI (by show D.1.length < _; omega)]
      refine g_iload1 dX8_bestOrder_41 (g_aload0 dX8_bestOrder_42 (g_mget fl_X8_103 mg_12 dX8_bestOrder_43 (g_icmp_ge (tgt := 67) dX8_bestOrder_46 (by decide) (fun h46 => ?s67_2) (fun h46 => g_aload0 dX8_bestOrder_49 (g_mget fl_X8_35 mg_11 dX8_bestOrder_50 (g_iload1 dX8_bestOrder_53 (g_aload0 dX8_bestOrder_54 (g_mget fl_X8_53 mg_35 dX8_bestOrder_55 (g_iload1 dX8_bestOrder_58 (g_mia ma_35 dX8_bestOrder_59 ?b59_2 (g_mis ma_11 mas_11 dX8_bestOrder_60 ?b60_2 (g_iinc1 ki_1 dX8_bestOrder_61 rfl rfl (g_goto (tgt := 41) dX8_bestOrder_64 (by decide) (?s41_2))))))))))))))
      case s67_2 => omega
      case s41_2 =>
        rw [ei, Int.toNat_natCast, nI_1, h4 i (by omega)]
        refine ih (i + 1) v2 t2 _ (by omega) h1 (h2.up 11 _ rfl) (h3.ag2 (S1 := []) (S2 := [11]) agV.rf (agF.rf.up 11 _ rfl) rfl rfl (fun j x hj => by simp at hj)) ?_ ?_ h6 (by rw [updA_o (by decide)]; exact h7)
        · intro j hj
          rw [updA_o (by decide)]; exact h4 j hj
        · intro j hj
          rw [updA_s]
          by_cases hji : j = i
          · rw [hji, upd_s]
          · rw [upd_o hji]; exact h5 j (by omega)
      all_goals omega
  have save : ∀ u i f2, i + u = D.1.length → agF [35] f f2 → (∀ j, j < i → f2 35 j = f 11 j) → G E mX8_bestOrder (d + 73) 0 0 A Q 0 0 2 [some (.ref (b 0)), some (.int (nI i))] [] (mW E b v t f2) := by
    intro u
    induction u with
    | zero =>
      intro i f2 hi h2 h3
      have ei := t_nI (n := i) (by omega)
      have e12 : (v 12).toInt = D.1.length := by rw [hM.1, t_nI (by omega)]
      have hii : i = D.1.length := by omega
      subst hii
      refine g_iload1 dX8_bestOrder_2 (g_aload0 dX8_bestOrder_3 (g_mget fl_X8_103 mg_12 dX8_bestOrder_4 (g_icmp_ge (tgt := 28) dX8_bestOrder_7 (by decide) (fun h7 => g_aload0 dX8_bestOrder_28 (g_iconst ki_m1 dX8_bestOrder_29 (g_mput fl_X8_290 fp_7_37 ms_37 rfl rfl rfl dX8_bestOrder_30 (g_aload0 dX8_bestOrder_33 (g_iconst ki_0 dX8_bestOrder_34 (g_iconst ki_0 dX8_bestOrder_35 (?c36_3))))))) (fun h7 => ?s10_3))))
      case s10_3 => omega
      case c36_3 =>
        have hM2 : MD (upd v 37 (-1)) f2 (dgO D []) := hM.ag2 (S1 := [37]) (agV.rf.up 37 _ rfl) h2 rfl rfl (fun j x hj => by simp at hj)
        have ho := c_X8_orders (b := b) (d := d + 6 - D.1.length) hN hD hr6 hX D.1.length [] (2147483647, []) (upd v 37 (-1)) t f2 (by simp) (by simp) (fun y hy => by cases hy) hM2 (by rw [upd_o (by decide)]; exact hr) (hTB.ag h2 rfl rfl) ⟨upd_s, fun j x hj => by simp at hj, Nat.le_refl _⟩
        rw [show d + 6 - D.1.length + 66 + D.1.length = d + 72 by omega, ← hso] at ho
        refine g_V2v dX8_bestOrder_36 mv_X8_293 0 rfl rfl rfl (Nat.le_of_ble_eq_true rfl) (Nat.le_of_ble_eq_true rfl) (ho) (fun w1 hq => ?_)
        obtain ⟨v3, t3, f3, rfl, g1, g2, g3, g4⟩ := hq
        have hag : agV mK6 v v3 := (agV.rf.up 37 (-1) rfl).tr g1
        have hagf : agF [11, 35, 36] f f3 := (h2.wk rfl).tr (g2.wk rfl)
        refine g_iconst ki_0 dX8_bestOrder_39 (g_istore1 dX8_bestOrder_40 rfl rfl (?s41_4))
        refine rest D.1.length 0 v3 t3 f3 (by omega) hag hagf g3 ?_ (fun j hj => absurd hj (Nat.not_lt_zero j)) ?_ g4.2.1
        · intro j hj
          rw [g2.at 35 rfl]; exact h3 j hj
        · have := g4.1
          unfold boI at this
          rw [if_neg (by omega)] at this
          exact this
    | succ u ih =>
      intro i f2 hi h2 h3
      have ei := t_nI (n := i) (by omega)
      have e12 : (v 12).toInt = D.1.length := by rw [hM.1, t_nI (by omega)]
      refine g_iload1 dX8_bestOrder_2 (g_aload0 dX8_bestOrder_3 (g_mget fl_X8_103 mg_12 dX8_bestOrder_4 (g_icmp_ge (tgt := 28) dX8_bestOrder_7 (by decide) (fun h7 => ?s28_5) (fun h7 => g_aload0 dX8_bestOrder_10 (g_mget fl_X8_53 mg_35 dX8_bestOrder_11 (g_iload1 dX8_bestOrder_14 (g_aload0 dX8_bestOrder_15 (g_mget fl_X8_35 mg_11 dX8_bestOrder_16 (g_iload1 dX8_bestOrder_19 (g_mia ma_11 dX8_bestOrder_20 ?b20_5 (g_mis ma_35 mas_35 dX8_bestOrder_21 ?b21_5 (g_iinc1 ki_1 dX8_bestOrder_22 rfl rfl (g_goto (tgt := 2) dX8_bestOrder_25 (by decide) (?s2_5))))))))))))))
      case s28_5 => omega
      case s2_5 =>
        rw [ei, Int.toNat_natCast, nI_1, h2.at 11 rfl]
        refine ih (i + 1) _ (by omega) (h2.up 35 _ rfl) ?_
        intro j hj
        rw [updA_s]
        by_cases hji : j = i
        · rw [hji, upd_s]
        · rw [upd_o hji]; exact h3 j (by omega)
      all_goals omega
  refine g_iconst ki_0 dX8_bestOrder_0 (g_istore1 dX8_bestOrder_1 rfl rfl (?s2_6))
  exact save D.1.length 0 f (by omega) agF.rf (fun j hj => absurd hj (Nat.not_lt_zero j))
set_option maxRecDepth 20000 in
set_option maxHeartbeats 4000000 in
theorem c_X8_atOdds (hN : g_N E) (hD : dgOK D) (hM : MD v f D) (hr : v 4 = nI ru) (hr6 : ru < 6) (hTB : TB B ru f) (hX : TX B C e) (k : Int32) : g_Ci E mX8_atOdds (d + 74) [.ref (b 0), .int k] (mW E b v t f) (fun z w => (¬ (0 ≤ k.toInt ∧ k.toInt ≤ 1) → z = -2) ∧ (k.toInt = 0 → z.toInt = oddsF D C e (D.1.length - 1)) ∧ (k.toInt = 1 → z = nI (srF D.1.length (prB D C e) (fun _ => 0)).1) ∧ ∃ v' t' f', w = mW E b v' t' f' ∧ agV mK6 v v' ∧ agF [11, 35, 36] f f' ∧ MD v' f' D) := by
  refine g_enterI hN.1 (by decide) [some (.ref (b 0)), some (.int k)] rfl (Nat.le_of_ble_eq_true rfl) (fun A Q hQ => ?_)
  have tcm2 := tc_m2
  refine g_iload1 dX8_atOdds_0 (g_i2l dX8_atOdds_1 (g_lconst kl_0 dX8_atOdds_2 (g_lconst kl_1 dX8_atOdds_3 (r_X8_in hN mv_X8_106 dX8_atOdds_4 (Nat.le_of_ble_eq_true rfl) (Nat.le_of_ble_eq_true rfl) rfl (g_if_ne (tgt := 13) dX8_atOdds_7 (by decide) (fun h7 => g_iload1 dX8_atOdds_13 (g_if_ne (tgt := 22) dX8_atOdds_14 (by decide) (fun h14 => g_aload0 dX8_atOdds_22 (?c23)) (fun h14 => g_aload0 dX8_atOdds_17 (?c18)))) (fun h7 => g_bipush kb_m2 dX8_atOdds_10 (g_iret rfl dX8_atOdds_12 (Nat.le_of_ble_eq_true rfl) (Nat.le_of_ble_eq_true rfl) ?q12)))))))
  all_goals try simp only [g_biz, Int32.toInt_toInt64, tl_m4611686018427387904, tl_m1, tl_0, tl_1, tl_2, tl_3, tl_4, tl_5, tl_9, tl_10, tl_20, tl_40, tl_43, tl_48, tl_57, tl_60, tl_97, tl_99, tl_122, tl_255] at *
  case q12 => exact hQ _ _ ⟨fun _ => rfl, fun q => by omega, fun q => by omega, v, t, f, rfl, agV.rf, agF.rf, hM⟩
  case c23 =>
    refine g_V0v dX8_atOdds_23 mv_X8_297 0 rfl rfl rfl (Nat.le_of_ble_eq_true rfl) (Nat.le_of_ble_eq_true rfl) (c_X8_bestOrder (d := d) hN hD hM hr hr6 hTB hX) (fun w1 hq => ?_)
    obtain ⟨v3, t3, f3, rfl, g1, g2, g3, g4, g5⟩ := hq
    refine g_aload0 dX8_atOdds_26 (g_mget fl_X8_290 mg_37 dX8_atOdds_27 (g_iret rfl dX8_atOdds_30 (Nat.le_of_ble_eq_true rfl) (Nat.le_of_ble_eq_true rfl) ?q30_2))
    exact hQ _ _ ⟨fun q => by omega, fun q => by omega, fun _ => g4, v3, t3, f3, rfl, g1, g2, g3⟩
  case c18 =>
    refine g_V0i dX8_atOdds_18 mv_X8_287 0 rfl rfl rfl (Nat.le_of_ble_eq_true rfl) (Nat.le_of_ble_eq_true rfl) (c_X8_atOddsNow (d := d + 8) hN hD hM hr hr6 hTB hX) (fun z1_ w1 hq => ?_)
    obtain ⟨hz, v2, t2, rfl, h1⟩ := hq
    refine g_iret rfl dX8_atOdds_21 (Nat.le_of_ble_eq_true rfl) (Nat.le_of_ble_eq_true rfl) ?q21_3
    exact hQ _ _ ⟨fun q => by omega, fun _ => hz, fun q => by omega, v2, t2, f, rfl, h1.wk rfl, agF.rf, hM.ag (S2 := []) h1 agF.rf rfl rfl⟩
set_option maxRecDepth 20000 in
set_option maxHeartbeats 4000000 in
theorem c_X8_best (hN : g_N E) (hD : dgOK D) (hM : MD v f D) (hr : v 4 = nI ru) (hr6 : ru < 6) (hTB : TB B ru f) (hX : TX B C e) (k : Int32) : g_Ci E mX8_best (d + 74) [.ref (b 0), .int k] (mW E b v t f) (fun z w => (¬ (0 ≤ k.toInt ∧ k.toInt < D.1.length) → z = -2) ∧ (0 ≤ k.toInt ∧ k.toInt < D.1.length → ∀ x, (srF D.1.length (prB D C e) (fun _ => 0)).2[k.toInt.toNat]? = some x → z = nI x) ∧ ∃ v' t' f', w = mW E b v' t' f' ∧ agV mK6 v v' ∧ agF [11, 35, 36] f f' ∧ MD v' f' D) := by
  obtain ⟨n0, n1, n2⟩ := hM.n1 hD.1
  have hn := hD.1
  refine g_enterI hN.1 (by decide) [some (.ref (b 0)), some (.int k)] rfl (Nat.le_of_ble_eq_true rfl) (fun A Q hQ => ?_)
  have tcm2 := tc_m2
  refine g_aload0 dX8_best_0 (g_iload1 dX8_best_1 (r_X8_isDog hN mv_X8_119 dX8_best_2 (Nat.le_of_ble_eq_true rfl) (Nat.le_of_ble_eq_true rfl) rfl (g_if_ne (tgt := 11) dX8_best_5 (by decide) (fun h5 => g_aload0 dX8_best_11 (?c12)) (fun h5 => g_bipush kb_m2 dX8_best_8 (g_iret rfl dX8_best_10 (Nat.le_of_ble_eq_true rfl) (Nat.le_of_ble_eq_true rfl) ?q10)))))
  all_goals try simp only [g_biz, Int32.toInt_toInt64, tl_m4611686018427387904, tl_m1, tl_0, tl_1, tl_2, tl_3, tl_4, tl_5, tl_9, tl_10, tl_20, tl_40, tl_43, tl_48, tl_57, tl_60, tl_97, tl_99, tl_122, tl_255] at *
  case q10 => exact hQ _ _ ⟨fun _ => rfl, fun q => by omega, v, t, f, rfl, agV.rf, agF.rf, hM⟩
  case c12 =>
    refine g_V0v dX8_best_12 mv_X8_297 0 rfl rfl rfl (Nat.le_of_ble_eq_true rfl) (Nat.le_of_ble_eq_true rfl) (c_X8_bestOrder (d := d) hN hD hM hr hr6 hTB hX) (fun w1 hq => ?_)
    obtain ⟨v3, t3, f3, rfl, g1, g2, g3, g4, g5⟩ := hq
    refine g_aload0 dX8_best_15 (g_mget fl_X8_56 mg_36 dX8_best_16 (g_iload1 dX8_best_19 (g_mia ma_36 dX8_best_20 ?b20_2 (g_iret rfl dX8_best_21 (Nat.le_of_ble_eq_true rfl) (Nat.le_of_ble_eq_true rfl) ?q21_2))))
    case b20_2 => omega
    case q21_2 => exact hQ _ _ ⟨fun q => by omega, fun _ x hx => g5.at hx, v3, t3, f3, rfl, g1, g2, g3⟩
end S94
