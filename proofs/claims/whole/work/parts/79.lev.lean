section S79
variable {E : GE} {d : Nat} {b : Nat → Nat} {v : Nat → Int32} {t : Int64} {f : Nat → Nat → Int32} {B : List Nat} {ti : Nat} {P : PS} {o : Nat}
theorem jn_17 (x y : Int32) : joinF (nI 17) x y = x * y := by unfold joinF; rw [if_neg (by decide), if_neg (by decide), if_neg (by decide), if_neg (by decide), if_pos (by decide)]
theorem jn_15 (x y : Int32) : joinF (nI 15) x y = x + y := by unfold joinF; rw [if_neg (by decide), if_neg (by decide), if_pos (by decide)]
theorem jn_16 (x y : Int32) : joinF (nI 16) x y = x - y := by unfold joinF; rw [if_neg (by decide), if_neg (by decide), if_neg (by decide), if_pos (by decide)]
theorem jn_9 (x y : Int32) : joinF (nI 9) x y = g_bi (¬ x.toInt = 0 ∨ ¬ y.toInt = 0) := by unfold joinF; rw [if_pos (by decide)]
theorem jn_10 (x y : Int32) : joinF (nI 10) x y = g_bi (¬ x.toInt = 0 ∧ ¬ y.toInt = 0) := by unfold joinF; rw [if_neg (by decide), if_pos (by decide)]
theorem jn_18 (x y : Int32) : joinF (nI 18) x y = g_bi (x.toInt < y.toInt) := by unfold joinF; rw [if_neg (by decide), if_neg (by decide), if_neg (by decide), if_neg (by decide), if_neg (by decide), if_pos (by decide)]
theorem jn_19 (x y : Int32) : joinF (nI 19) x y = g_bi (x.toInt = y.toInt) := by unfold joinF; rw [if_neg (by decide), if_neg (by decide), if_neg (by decide), if_neg (by decide), if_neg (by decide), if_neg (by decide), if_pos (by decide)]
/-- one operation more -/
theorem evStep {nm : Nat → Int32} {s1 s2 : List Int32} {x y z : Int32} {j : Nat} (hj : j = 9 ∨ j = 10 ∨ (15 ≤ j ∧ j ≤ 19)) (h1 : ∀ s, s1.foldl (work1 nm) s = x :: s) (h2 : ∀ s, s2.foldl (work1 nm) s = y :: s) (hz : joinF (nI j) x y = z) (s : List Int32) : (s1 ++ (s2 ++ [nI j])).foldl (work1 nm) s = z :: s := by
  rw [List.foldl_append, List.foldl_append, h1, h2]
  show work1 nm (y :: x :: s) (nI j) = z :: s
  rw [evOp x y s hj, hz]
set_option maxRecDepth 20000 in
theorem c_isWbad (hN : g_N E) (h29 : ¬ (v 29).toInt = 0) (x0 x1 x2 x3 x4 x5 x6 x7 : Int32) : g_Ci E mX8_isWord (d + 3) [.ref (b 0), .int x0, .int x1, .int x2, .int x3, .int x4, .int x5, .int x6, .int x7] (mW E b v t f) (fun z w => z = 0 ∧ w = mW E b v t f) := by
  refine g_enterI hN.1 (by decide) [some (.ref (b 0)), some (.int x0), some (.int x1), some (.int x2), some (.int x3), some (.int x4), some (.int x5), some (.int x6), some (.int x7)] rfl (Nat.le_of_ble_eq_true rfl) (fun A Q hQ => ?_)
  have tc0 := tc_0; have tc1 := tc_1; have tc2 := tc_2; have tc3 := tc_3; have tc4 := tc_4; have tc5 := tc_5; have tc6 := tc_6; have tc7 := tc_7; have tc8 := tc_8
  refine g_aload0 dX8_isWord_0 (g_mget fl_X8_170 mg_29 dX8_isWord_1 (g_if_ne (tgt := 112) dX8_isWord_4 (by decide) (fun h4 => g_iconst ki_0 dX8_isWord_112 (g_zret rfl (by first | exact g_bi01 _ | exact Or.inl rfl | exact Or.inr rfl) dX8_isWord_113 (Nat.le_of_ble_eq_true rfl) (Nat.le_of_ble_eq_true rfl) ?q113)) (fun h4 => ?s7)))
  case s7 => omega
  case q113 => exact hQ _ _ ⟨rfl, rfl⟩
set_option maxRecDepth 20000 in
set_option maxHeartbeats 4000000 in
theorem c_term (hN : g_N E) {F : Nat} (ih : McL E b d F 6) : McL E b d (F + 1) 5 := by
  intro o P v t f B ti ho hne hB h29 h28 hT hV
  show g_Ci E mX8_term _ _ _ _
  generalize hF : prs B (F + 1) 5 o P = r
  rw [prs, if_neg (by decide), if_neg (by decide), if_neg (by decide), if_neg (by decide), if_neg (by decide), if_pos rfl] at hF
  have hne2 : needN 6 o ≤ F := by unfold needN at *; omega
  refine g_enterI hN.1 (by decide) [some (.ref (b 0)), none] rfl (Nat.le_of_ble_eq_true rfl) (fun A Q hQ => ?_)
  have tc42 := tc_42
  have out : ∀ v2 t2 z, r.1 = false → agV mK v v2 → v2 29 = 1 → v2 30 = nI r.2.1.2.1 → G E mX8_term (d + (F + 1) + 10) 0 0 A Q 0 0 5 [some (.ref (b 0)), some (.int z)] [] (mW E b v2 t2 f) := by
    intro v2 t2 z hr hag g29 g30
    have z29 : (v2 29).toInt = 1 := by rw [g29]; decide
    refine g_aload0 dX8_term_5 (g_bipush kb_42 dX8_term_6 (r_X8_isSign hN mv_X8_212 dX8_term_8 (Nat.le_of_ble_eq_true rfl) (Nat.le_of_ble_eq_true rfl) rfl (g_if_eq (tgt := 28) dX8_term_11 (by decide) (fun h11 => g_iload1 dX8_term_28 (g_iret rfl dX8_term_29 (Nat.le_of_ble_eq_true rfl) (Nat.le_of_ble_eq_true rfl) ?q29)) (fun h11 => g_aload0 dX8_term_14 (?c15)))))
    all_goals try simp only [g_biz, Int32.toInt_toInt64, tl_m4611686018427387904, tl_m1, tl_0, tl_1, tl_2, tl_3, tl_4, tl_5, tl_9, tl_10, tl_20, tl_40, tl_43, tl_48, tl_57, tl_60, tl_97, tl_99, tl_122, tl_255] at *
    case c15 => omega
    case q29 => exact hQ _ _ (McP.bad2 hr rfl hag g29 g30)
  have loop : ∀ u (rr : PR) v2 t2 z, B.length ≤ rr.2.1.2.1 + u → rr.1 = true → PsV B rr.2.1 → agV mK v v2 → v2 29 = 0 → v2 28 = nI o → MyT B rr.2.1 (v2 25) (v2 26) (v2 24) t2 → (∀ s, rr.2.2.foldl (work1 (nmV v)) s = z :: s) → loopB B (fun t => t == 17) (prs B F 6 o) u rr = r → G E mX8_term (d + (F + 1) + 10) 0 0 A Q 0 0 5 [some (.ref (b 0)), some (.int z)] [] (mW E b v2 t2 f) := by
    intro u
    induction u with
    | zero =>
      intro rr v2 t2 z hat hr1 hV2 hag g29 g28 hT2 hev hlo
      rw [loopB] at hlo
      subst hlo
      have z29 : (v2 29).toInt = 0 := by rw [g29]; decide
      have s42 := hT2.sign (j := 5) (c := 42) rfl
      have := hV2.2.2.2 (by have := hV2.1; omega)
      refine g_aload0 dX8_term_5 (g_bipush kb_42 dX8_term_6 (r_X8_isSign hN mv_X8_212 dX8_term_8 (Nat.le_of_ble_eq_true rfl) (Nat.le_of_ble_eq_true rfl) rfl (g_if_eq (tgt := 28) dX8_term_11 (by decide) (fun h11 => g_iload1 dX8_term_28 (g_iret rfl dX8_term_29 (Nat.le_of_ble_eq_true rfl) (Nat.le_of_ble_eq_true rfl) ?q29_2)) (fun h11 => g_aload0 dX8_term_14 (?c15_2)))))
      all_goals try simp only [g_biz, Int32.toInt_toInt64, tl_m4611686018427387904, tl_m1, tl_0, tl_1, tl_2, tl_3, tl_4, tl_5, tl_9, tl_10, tl_20, tl_40, tl_43, tl_48, tl_57, tl_60, tl_97, tl_99, tl_122, tl_255] at *
      all_goals try simp only [tc42] at *
      case c15_2 => omega
      case q29_2 => exact hQ _ _ ⟨v2, t2, rfl, hag, fun _ => ⟨g29, g28, hT2, hev⟩, fun q => by rw [hr1] at q; cases q⟩
    | succ u ih2 =>
      intro rr v2 t2 z hat hr1 hV2 hag g29 g28 hT2 hev hlo
      have z29 : (v2 29).toInt = 0 := by rw [g29]; decide
      have s42 := hT2.sign (j := 5) (c := 42) rfl
      rw [loopB] at hlo
      refine g_aload0 dX8_term_5 (g_bipush kb_42 dX8_term_6 (r_X8_isSign hN mv_X8_212 dX8_term_8 (Nat.le_of_ble_eq_true rfl) (Nat.le_of_ble_eq_true rfl) rfl (g_if_eq (tgt := 28) dX8_term_11 (by decide) (fun h11 => g_iload1 dX8_term_28 (g_iret rfl dX8_term_29 (Nat.le_of_ble_eq_true rfl) (Nat.le_of_ble_eq_true rfl) ?q29_3)) (fun h11 => g_aload0 dX8_term_14 (?c15_3)))))
      all_goals try simp only [g_biz, Int32.toInt_toInt64, tl_m4611686018427387904, tl_m1, tl_0, tl_1, tl_2, tl_3, tl_4, tl_5, tl_9, tl_10, tl_20, tl_40, tl_43, tl_48, tl_57, tl_60, tl_97, tl_99, tl_122, tl_255] at *
      all_goals try simp only [tc42] at *
      case q29_3 =>
        rw [if_neg (fun q => by have := beq_iff_eq.mp q.2; omega)] at hlo
        subst hlo
        exact hQ _ _ ⟨v2, t2, rfl, hag, fun _ => ⟨g29, g28, hT2, hev⟩, fun q => by rw [hr1] at q; cases q⟩
      case c15_3 =>
        have h17 : rr.2.1.1 = 17 := by omega
        rw [if_pos ⟨hr1, by rw [h17]; rfl⟩] at hlo
        obtain ⟨hV3, hat3⟩ := hV2.next (by omega)
        refine g_V0v dX8_term_15 mv_X8_187 0 rfl rfl rfl (Nat.le_of_ble_eq_true rfl) (Nat.le_of_ble_eq_true rfl) (c_mnext (d := d + F + 7) hN (hB.ag hag rfl rfl) hT2 hV2 (by omega)) (fun w1 hq => ?_)
        obtain ⟨v3, t3, rfl, hag3, hT3⟩ := hq
        have hag3' : agV mK v v3 := hag.tr (hag3.wk rfl)
        refine g_iload1 dX8_term_18 (g_aload0 dX8_term_19 (?c20_4))
        have hPG := prs_PG B F 6 o _ hV3
        have hc := ih o _ v3 t3 f B ti ho hne2 (hB.ag hag3' rfl rfl) (by rw [hag3.at 29 rfl]; exact g29) (by rw [hag3.at 28 rfl]; exact g28) hT3 hV3
        generalize hr1' : prs B F 6 o (lexP B rr.2.1.2.2.1) = r1 at *
        refine g_V0i dX8_term_20 mv_X8_219 0 rfl rfl rfl (Nat.le_of_ble_eq_true rfl) (Nat.le_of_ble_eq_true rfl) (hc) (fun z1_ w1 hq => ?_)
        obtain ⟨v4, t4, rfl, hag4, q1, q2⟩ := hq
        refine g_imul dX8_term_23 (g_istore1 dX8_term_24 rfl rfl (g_goto (tgt := 5) dX8_term_25 (by decide) (?s5_5)))
        cases hb : r1.1 with
        | true =>
          obtain ⟨j1, j2, j3, j4⟩ := q1 hb
          obtain ⟨g5, g6⟩ := hPG hb
          rw [nmV_ag hag3'] at j4
          refine ih2 _ v4 t4 _ ?_ ?_ ?_ (hag3'.tr hag4) j1 j2 ?_ ?_ hlo
          · dsimp only; omega
          · exact hb
          · exact g5
          · exact j3
          · dsimp only
            rw [h17]
            exact evStep (by omega) hev j4 (jn_17 _ _)
        | false =>
          rw [loopB_f _ _ _ _ (r1.1, r1.2.1, rr.2.2 ++ (r1.2.2 ++ [nI rr.2.1.1])) hb] at hlo
          obtain ⟨j1, j2⟩ := q2 hb
          exact out v4 t4 _ (by rw [← hlo]; exact hb) (hag3'.tr hag4) j1 (by rw [← hlo]; exact j2)
  refine g_aload0 dX8_term_0 (?c1_6)
  have hPG := prs_PG B F 6 o _ hV
  have hc := ih o P v t f B ti ho hne2 hB h29 h28 hT hV
  generalize hr1' : prs B F 6 o P = r1 at *
  refine g_V0i dX8_term_1 mv_X8_219 0 rfl rfl rfl (Nat.le_of_ble_eq_true rfl) (Nat.le_of_ble_eq_true rfl) (hc) (fun z1_ w1 hq => ?_)
  obtain ⟨v4, t4, rfl, hag4, q1, q2⟩ := hq
  refine g_istore1 dX8_term_4 rfl rfl (?s5_7)
  cases hb : r1.1 with
  | true =>
    obtain ⟨j1, j2, j3, j4⟩ := q1 hb
    obtain ⟨g5, g6⟩ := hPG hb
    exact loop 160 r1 v4 t4 _ (by have := hB.1; omega) hb g5 hag4 j1 j2 j3 j4 hF
  | false =>
    rw [loopB_f _ _ _ _ _ hb] at hF
    obtain ⟨j1, j2⟩ := q2 hb
    exact out v4 t4 _ (by rw [← hF]; exact hb) hag4 j1 (by rw [← hF]; exact j2)
set_option maxRecDepth 20000 in
set_option maxHeartbeats 4000000 in
theorem c_added (hN : g_N E) {F : Nat} (ih : McL E b d F 5) : McL E b d (F + 1) 4 := by
  intro o P v t f B ti ho hne hB h29 h28 hT hV
  show g_Ci E mX8_added _ _ _ _
  generalize hF : prs B (F + 1) 4 o P = r
  rw [prs, if_neg (by decide), if_neg (by decide), if_neg (by decide), if_neg (by decide), if_pos rfl] at hF
  have hne2 : needN 5 o ≤ F := by unfold needN at *; omega
  refine g_enterI hN.1 (by decide) [some (.ref (b 0)), none, none, none] rfl (Nat.le_of_ble_eq_true rfl) (fun A Q hQ => ?_)
  have tc0 := tc_0; have tc1 := tc_1; have tc43 := tc_43; have tc45 := tc_45
  have out : ∀ v2 t2 z l2 l3, r.1 = false → agV mK v v2 → v2 29 = 1 → v2 30 = nI r.2.1.2.1 → G E mX8_added (d + (F + 1) + 10) 0 0 A Q 0 0 5 [some (.ref (b 0)), some (.int z), l2, l3] [] (mW E b v2 t2 f) := by
    intro v2 t2 z l2 l3 hr hag g29 g30
    have z29 : (v2 29).toInt = 1 := by rw [g29]; decide
    refine g_aload0 dX8_added_5 (g_bipush kb_43 dX8_added_6 (r_X8_isSign hN mv_X8_212 dX8_added_8 (Nat.le_of_ble_eq_true rfl) (Nat.le_of_ble_eq_true rfl) rfl (g_if_ne (tgt := 23) dX8_added_11 (by decide) (fun h11 => ?s23) (fun h11 => g_aload0 dX8_added_14 (g_bipush kb_45 dX8_added_15 (r_X8_isSign hN mv_X8_212 dX8_added_17 (Nat.le_of_ble_eq_true rfl) (Nat.le_of_ble_eq_true rfl) rfl (g_if_eq (tgt := 66) dX8_added_20 (by decide) (fun h20 => g_iload1 dX8_added_66 (g_iret rfl dX8_added_67 (Nat.le_of_ble_eq_true rfl) (Nat.le_of_ble_eq_true rfl) ?q67)) (fun h20 => ?s23'))))))))
    all_goals try simp only [g_biz, Int32.toInt_toInt64, tl_m4611686018427387904, tl_m1, tl_0, tl_1, tl_2, tl_3, tl_4, tl_5, tl_9, tl_10, tl_20, tl_40, tl_43, tl_48, tl_57, tl_60, tl_97, tl_99, tl_122, tl_255] at *
    all_goals try omega
    case q67 => exact hQ _ _ (McP.bad2 hr rfl hag g29 g30)
  have loop : ∀ u (rr : PR) v2 t2 z l2 l3, B.length ≤ rr.2.1.2.1 + u → rr.1 = true → PsV B rr.2.1 → agV mK v v2 → v2 29 = 0 → v2 28 = nI o → MyT B rr.2.1 (v2 25) (v2 26) (v2 24) t2 → (∀ s, rr.2.2.foldl (work1 (nmV v)) s = z :: s) → loopB B (fun t => t == 15 || t == 16) (prs B F 5 o) u rr = r → G E mX8_added (d + (F + 1) + 10) 0 0 A Q 0 0 5 [some (.ref (b 0)), some (.int z), l2, l3] [] (mW E b v2 t2 f) := by
    intro u
    induction u with
    | zero =>
      intro rr v2 t2 z l2 l3 hat hr1 hV2 hag g29 g28 hT2 hev hlo
      rw [loopB] at hlo
      subst hlo
      have z29 : (v2 29).toInt = 0 := by rw [g29]; decide
      have s43 := hT2.sign (j := 3) (c := 43) rfl
      have s45 := hT2.sign (j := 4) (c := 45) rfl
      have := hV2.2.2.2 (by have := hV2.1; omega)
      refine g_aload0 dX8_added_5 (g_bipush kb_43 dX8_added_6 (r_X8_isSign hN mv_X8_212 dX8_added_8 (Nat.le_of_ble_eq_true rfl) (Nat.le_of_ble_eq_true rfl) rfl (g_if_ne (tgt := 23) dX8_added_11 (by decide) (fun h11 => ?s23_2) (fun h11 => g_aload0 dX8_added_14 (g_bipush kb_45 dX8_added_15 (r_X8_isSign hN mv_X8_212 dX8_added_17 (Nat.le_of_ble_eq_true rfl) (Nat.le_of_ble_eq_true rfl) rfl (g_if_eq (tgt := 66) dX8_added_20 (by decide) (fun h20 => g_iload1 dX8_added_66 (g_iret rfl dX8_added_67 (Nat.le_of_ble_eq_true rfl) (Nat.le_of_ble_eq_true rfl) ?q67_2)) (fun h20 => ?s23_2'))))))))
      all_goals try simp only [g_biz, Int32.toInt_toInt64, tl_m4611686018427387904, tl_m1, tl_0, tl_1, tl_2, tl_3, tl_4, tl_5, tl_9, tl_10, tl_20, tl_40, tl_43, tl_48, tl_57, tl_60, tl_97, tl_99, tl_122, tl_255] at *
      all_goals try simp only [tc43, tc45] at *
      all_goals try omega
      case q67_2 => exact hQ _ _ ⟨v2, t2, rfl, hag, fun _ => ⟨g29, g28, hT2, hev⟩, fun q => by rw [hr1] at q; cases q⟩
    | succ u ih2 =>
      intro rr v2 t2 z l2 l3 hat hr1 hV2 hag g29 g28 hT2 hev hlo
      have z29 : (v2 29).toInt = 0 := by rw [g29]; decide
      have s43 := hT2.sign (j := 3) (c := 43) rfl
      have s45 := hT2.sign (j := 4) (c := 45) rfl
      have hlg := lg_c t2 43
      rw [loopB] at hlo
      have body : ∀ l3, (rr.2.1.1 = 15 ∨ rr.2.1.1 = 16) → G E mX8_added (d + (F + 1) + 10) 0 0 A Q 0 0 39 [some (.ref (b 0)), some (.int z), l2, l3] [.int (g_bi (rr.2.1.1 = 15))] (mW E b v2 t2 f) := by
        intro l3 hop
        have zb := g_biz (p := (rr.2.1.1 = 15))
        rw [if_pos ⟨hr1, by rcases hop with q | q <;> rw [q] <;> rfl⟩] at hlo
        obtain ⟨hV3, hat3⟩ := hV2.next (by omega)
        refine g_istore2 dX8_added_39 rfl rfl (g_aload0 dX8_added_40 (?c41_3))
        refine g_V0v dX8_added_41 mv_X8_187 0 rfl rfl rfl (Nat.le_of_ble_eq_true rfl) (Nat.le_of_ble_eq_true rfl) (c_mnext (d := d + F + 7) hN (hB.ag hag rfl rfl) hT2 hV2 (by omega)) (fun w1 hq => ?_)
        obtain ⟨v3, t3, rfl, hag3, hT3⟩ := hq
        have hag3' : agV mK v v3 := hag.tr (hag3.wk rfl)
        refine g_aload0 dX8_added_44 (?c45_4)
        have hPG := prs_PG B F 5 o _ hV3
        have hc := ih o _ v3 t3 f B ti ho hne2 (hB.ag hag3' rfl rfl) (by rw [hag3.at 29 rfl]; exact g29) (by rw [hag3.at 28 rfl]; exact g28) hT3 hV3
        generalize hr1' : prs B F 5 o (lexP B rr.2.1.2.2.1) = r1 at *
        refine g_V0i dX8_added_45 mv_X8_229 0 rfl rfl rfl (Nat.le_of_ble_eq_true rfl) (Nat.le_of_ble_eq_true rfl) (hc) (fun z1_ w1 hq => ?_)
        obtain ⟨v4, t4, rfl, hag4, q1, q2⟩ := hq
        cases hb : r1.1 with
        | true =>
          obtain ⟨j1, j2, j3, j4⟩ := q1 hb
          obtain ⟨g5, g6⟩ := hPG hb
          rw [nmV_ag hag3'] at j4
          refine g_istore3 dX8_added_48 rfl rfl (g_iload2 dX8_added_49 (g_if_eq (tgt := 59) dX8_added_50 (by decide) (fun h50 => g_iload1 dX8_added_59 (g_iload3 dX8_added_60 (g_isub dX8_added_61 (g_istore1 dX8_added_62 rfl rfl (g_goto (tgt := 5) dX8_added_63 (by decide) (?s5_5)))))) (fun h50 => g_iload1 dX8_added_53 (g_iload3 dX8_added_54 (g_iadd dX8_added_55 (g_goto (tgt := 62) dX8_added_56 (by decide) (g_istore1 dX8_added_62 rfl rfl (g_goto (tgt := 5) dX8_added_63 (by decide) (?s5_5')))))))))
          case s5_5 =>
            have h16 : rr.2.1.1 = 16 := by omega
            refine ih2 _ v4 t4 _ _ _ ?_ ?_ ?_ (hag3'.tr hag4) j1 j2 ?_ ?_ hlo
            · dsimp only; omega
            · exact hb
            · exact g5
            · exact j3
            · dsimp only
              rw [h16]
              exact evStep (by omega) hev j4 (jn_16 _ _)
          case s5_5' =>
            have h15 : rr.2.1.1 = 15 := by omega
            refine ih2 _ v4 t4 _ _ _ ?_ ?_ ?_ (hag3'.tr hag4) j1 j2 ?_ ?_ hlo
            · dsimp only; omega
            · exact hb
            · exact g5
            · exact j3
            · dsimp only
              rw [h15]
              exact evStep (by omega) hev j4 (jn_15 _ _)
        | false =>
          rw [loopB_f _ _ _ _ (r1.1, r1.2.1, rr.2.2 ++ (r1.2.2 ++ [nI rr.2.1.1])) hb] at hlo
          obtain ⟨j1, j2⟩ := q2 hb
          refine g_istore3 dX8_added_48 rfl rfl (g_iload2 dX8_added_49 (g_if_eq (tgt := 59) dX8_added_50 (by decide) (fun h50 => g_iload1 dX8_added_59 (g_iload3 dX8_added_60 (g_isub dX8_added_61 (g_istore1 dX8_added_62 rfl rfl (g_goto (tgt := 5) dX8_added_63 (by decide) (?s5_6)))))) (fun h50 => g_iload1 dX8_added_53 (g_iload3 dX8_added_54 (g_iadd dX8_added_55 (g_goto (tgt := 62) dX8_added_56 (by decide) (g_istore1 dX8_added_62 rfl rfl (g_goto (tgt := 5) dX8_added_63 (by decide) (?s5_6')))))))))
          all_goals exact out v4 t4 _ _ _ (by rw [← hlo]; exact hb) (hag3'.tr hag4) j1 (by rw [← hlo]; exact j2)
      refine g_aload0 dX8_added_5 (g_bipush kb_43 dX8_added_6 (r_X8_isSign hN mv_X8_212 dX8_added_8 (Nat.le_of_ble_eq_true rfl) (Nat.le_of_ble_eq_true rfl) rfl (g_if_ne (tgt := 23) dX8_added_11 (by decide) (fun h11 => g_aload0 dX8_added_23 (g_mget fl_X8_166 mg_27 dX8_added_24 (g_ldc2_w kj_X8_232 dX8_added_27 (g_lcmp dX8_added_30 (g_if_ne (tgt := 38) dX8_added_31 (by decide) (fun h31 => g_iconst ki_0 dX8_added_38 (?s39_7)) (fun h31 => g_iconst ki_1 dX8_added_34 (g_goto (tgt := 39) dX8_added_35 (by decide) (?s39_7')))))))) (fun h11 => g_aload0 dX8_added_14 (g_bipush kb_45 dX8_added_15 (r_X8_isSign hN mv_X8_212 dX8_added_17 (Nat.le_of_ble_eq_true rfl) (Nat.le_of_ble_eq_true rfl) rfl (g_if_eq (tgt := 66) dX8_added_20 (by decide) (fun h20 => g_iload1 dX8_added_66 (g_iret rfl dX8_added_67 (Nat.le_of_ble_eq_true rfl) (Nat.le_of_ble_eq_true rfl) ?q67_7)) (fun h20 => g_aload0 dX8_added_23 (g_mget fl_X8_166 mg_27 dX8_added_24 (g_ldc2_w kj_X8_232 dX8_added_27 (g_lcmp dX8_added_30 (g_if_ne (tgt := 38) dX8_added_31 (by decide) (fun h31 => g_iconst ki_0 dX8_added_38 (?s39_7'')) (fun h31 => g_iconst ki_1 dX8_added_34 (g_goto (tgt := 39) dX8_added_35 (by decide) (?s39_7''')))))))))))))))
      all_goals try simp only [g_biz, Int32.toInt_toInt64, tl_m4611686018427387904, tl_m1, tl_0, tl_1, tl_2, tl_3, tl_4, tl_5, tl_9, tl_10, tl_20, tl_40, tl_43, tl_48, tl_57, tl_60, tl_97, tl_99, tl_122, tl_255] at *
      all_goals try simp only [tc43, tc45] at *
      case q67_7 =>
        rw [if_neg (fun q => by
          rcases (Bool.or_eq_true _ _).mp q.2 with z | z
          · have := beq_iff_eq.mp z; omega
          · have := beq_iff_eq.mp z; omega)] at hlo
        subst hlo
        exact hQ _ _ ⟨v2, t2, rfl, hag, fun _ => ⟨g29, g28, hT2, hev⟩, fun q => by rw [hr1] at q; cases q⟩
      all_goals
        have hb := body l3 (by omega)
        first
          | (rw [g_bi1 (by split at hlg <;> omega)] at hb; exact hb) | (rw [g_bi0 (by split at hlg <;> omega)] at hb; exact hb)
  refine g_aload0 dX8_added_0 (?c1_8)
  have hPG := prs_PG B F 5 o _ hV
  have hc := ih o P v t f B ti ho hne2 hB h29 h28 hT hV
  generalize hr1' : prs B F 5 o P = r1 at *
  refine g_V0i dX8_added_1 mv_X8_229 0 rfl rfl rfl (Nat.le_of_ble_eq_true rfl) (Nat.le_of_ble_eq_true rfl) (hc) (fun z1_ w1 hq => ?_)
  obtain ⟨v4, t4, rfl, hag4, q1, q2⟩ := hq
  refine g_istore1 dX8_added_4 rfl rfl (?s5_9)
  cases hb : r1.1 with
  | true =>
    obtain ⟨j1, j2, j3, j4⟩ := q1 hb
    obtain ⟨g5, g6⟩ := hPG hb
    exact loop 160 r1 v4 t4 _ _ _ (by have := hB.1; omega) hb g5 hag4 j1 j2 j3 j4 hF
  | false =>
    rw [loopB_f _ _ _ _ _ hb] at hF
    obtain ⟨j1, j2⟩ := q2 hb
    exact out v4 t4 _ _ _ (by rw [← hF]; exact hb) hag4 j1 (by rw [← hF]; exact j2)
set_option maxRecDepth 20000 in
set_option maxHeartbeats 4000000 in
theorem c_both (hN : g_N E) {F : Nat} (ih : McL E b d F 2) : McL E b d (F + 1) 1 := by
  intro o P v t f B ti ho hne hB h29 h28 hT hV
  show g_Ci E mX8_both _ _ _ _
  generalize hF : prs B (F + 1) 1 o P = r
  rw [prs, if_neg (by decide), if_pos rfl] at hF
  have hne2 : needN 2 o ≤ F := by unfold needN at *; omega
  refine g_enterI hN.1 (by decide) [some (.ref (b 0)), none, none] rfl (Nat.le_of_ble_eq_true rfl) (fun A Q hQ => ?_)
  have tc0 := tc_0; have tc1 := tc_1; have tc97 := tc_97; have tc100 := tc_100; have tc110 := tc_110
  have out : ∀ v2 t2 z l2, r.1 = false → agV mK v v2 → v2 29 = 1 → v2 30 = nI r.2.1.2.1 → G E mX8_both (d + (F + 1) + 10) 0 0 A Q 0 0 5 [some (.ref (b 0)), some (.int z), l2] [] (mW E b v2 t2 f) := by
    intro v2 t2 z l2 hr hag g29 g30
    have z29 : (v2 29).toInt = 1 := by rw [g29]; decide
    refine g_aload0 dX8_both_5 (g_bipush kb_97 dX8_both_6 (g_bipush kb_110 dX8_both_8 (g_bipush kb_100 dX8_both_10 (g_iconst ki_0 dX8_both_12 (g_iconst ki_0 dX8_both_13 (g_iconst ki_0 dX8_both_14 (g_iconst ki_0 dX8_both_15 (g_iconst ki_0 dX8_both_16 (?c17)))))))))
    refine g_V8i dX8_both_17 mv_X8_190 0 rfl rfl rfl (Nat.le_of_ble_eq_true rfl) (Nat.le_of_ble_eq_true rfl) (c_isWbad (d := d + F + 7) hN (by omega) _ _ _ _ _ _ _ _) (fun r1 w1 hq => ?_)
    obtain ⟨rfl, rfl⟩ := hq
    refine g_if_eq (tgt := 49) dX8_both_20 (by decide) (fun h20 => g_iload1 dX8_both_49 (g_iret rfl dX8_both_50 (Nat.le_of_ble_eq_true rfl) (Nat.le_of_ble_eq_true rfl) ?q50_2)) (fun h20 => ?s23_2)
    case s23_2 => omega
    case q50_2 => exact hQ _ _ (McP.bad2 hr rfl hag g29 g30)
  have loop : ∀ u (rr : PR) v2 t2 z l2, B.length ≤ rr.2.1.2.1 + u → rr.1 = true → PsV B rr.2.1 → agV mK v v2 → v2 29 = 0 → v2 28 = nI o → MyT B rr.2.1 (v2 25) (v2 26) (v2 24) t2 → (∀ s, rr.2.2.foldl (work1 (nmV v)) s = z :: s) → loopB B (fun t => t == 10) (prs B F 2 o) u rr = r → G E mX8_both (d + (F + 1) + 10) 0 0 A Q 0 0 5 [some (.ref (b 0)), some (.int z), l2] [] (mW E b v2 t2 f) := by
    intro u
    induction u with
    | zero =>
      intro rr v2 t2 z l2 hat hr1 hV2 hag g29 g28 hT2 hev hlo
      rw [loopB] at hlo
      subst hlo
      have := hV2.2.2.2 (by have := hV2.1; omega)
      refine g_aload0 dX8_both_5 (g_bipush kb_97 dX8_both_6 (g_bipush kb_110 dX8_both_8 (g_bipush kb_100 dX8_both_10 (g_iconst ki_0 dX8_both_12 (g_iconst ki_0 dX8_both_13 (g_iconst ki_0 dX8_both_14 (g_iconst ki_0 dX8_both_15 (g_iconst ki_0 dX8_both_16 (?c17_3)))))))))
      refine g_V8i dX8_both_17 mv_X8_190 0 rfl rfl rfl (Nat.le_of_ble_eq_true rfl) (Nat.le_of_ble_eq_true rfl) (c_isW10 (d := d + F + 7) hN (hB.ag hag rfl rfl) hT2 g29) (fun r1 w1 hq => ?_)
      obtain ⟨rfl, rfl⟩ := hq
      refine g_if_eq (tgt := 49) dX8_both_20 (by decide) (fun h20 => g_iload1 dX8_both_49 (g_iret rfl dX8_both_50 (Nat.le_of_ble_eq_true rfl) (Nat.le_of_ble_eq_true rfl) ?q50_4)) (fun h20 => ?s23_4)
      all_goals try simp only [g_biz, Int32.toInt_toInt64, tl_m4611686018427387904, tl_m1, tl_0, tl_1, tl_2, tl_3, tl_4, tl_5, tl_9, tl_10, tl_20, tl_40, tl_43, tl_48, tl_57, tl_60, tl_97, tl_99, tl_122, tl_255] at *
      case s23_4 => omega
      case q50_4 => exact hQ _ _ ⟨v2, t2, rfl, hag, fun _ => ⟨g29, g28, hT2, hev⟩, fun q => by rw [hr1] at q; cases q⟩
    | succ u ih2 =>
      intro rr v2 t2 z l2 hat hr1 hV2 hag g29 g28 hT2 hev hlo
      rw [loopB] at hlo
      refine g_aload0 dX8_both_5 (g_bipush kb_97 dX8_both_6 (g_bipush kb_110 dX8_both_8 (g_bipush kb_100 dX8_both_10 (g_iconst ki_0 dX8_both_12 (g_iconst ki_0 dX8_both_13 (g_iconst ki_0 dX8_both_14 (g_iconst ki_0 dX8_both_15 (g_iconst ki_0 dX8_both_16 (?c17_5)))))))))
      refine g_V8i dX8_both_17 mv_X8_190 0 rfl rfl rfl (Nat.le_of_ble_eq_true rfl) (Nat.le_of_ble_eq_true rfl) (c_isW10 (d := d + F + 7) hN (hB.ag hag rfl rfl) hT2 g29) (fun r1 w1 hq => ?_)
      obtain ⟨rfl, rfl⟩ := hq
      refine g_if_eq (tgt := 49) dX8_both_20 (by decide) (fun h20 => g_iload1 dX8_both_49 (g_iret rfl dX8_both_50 (Nat.le_of_ble_eq_true rfl) (Nat.le_of_ble_eq_true rfl) ?q50_6)) (fun h20 => ?s23_6)
      all_goals try simp only [g_biz, Int32.toInt_toInt64, tl_m4611686018427387904, tl_m1, tl_0, tl_1, tl_2, tl_3, tl_4, tl_5, tl_9, tl_10, tl_20, tl_40, tl_43, tl_48, tl_57, tl_60, tl_97, tl_99, tl_122, tl_255] at *
      case q50_6 =>
        rw [if_neg (fun q => by have := beq_iff_eq.mp q.2; omega)] at hlo
        subst hlo
        exact hQ _ _ ⟨v2, t2, rfl, hag, fun _ => ⟨g29, g28, hT2, hev⟩, fun q => by rw [hr1] at q; cases q⟩
      case s23_6 =>
        have h17 : rr.2.1.1 = 10 := by omega
        rw [if_pos ⟨hr1, by rw [h17]; rfl⟩] at hlo
        obtain ⟨hV3, hat3⟩ := hV2.next (by omega)
        refine g_aload0 dX8_both_23 (?c24_7)
        refine g_V0v dX8_both_24 mv_X8_187 0 rfl rfl rfl (Nat.le_of_ble_eq_true rfl) (Nat.le_of_ble_eq_true rfl) (c_mnext (d := d + F + 7) hN (hB.ag hag rfl rfl) hT2 hV2 (by omega)) (fun w1 hq => ?_)
        obtain ⟨v3, t3, rfl, hag3, hT3⟩ := hq
        have hag3' : agV mK v v3 := hag.tr (hag3.wk rfl)
        refine g_aload0 dX8_both_27 (?c28_8)
        have hPG := prs_PG B F 2 o _ hV3
        have hc := ih o _ v3 t3 f B ti ho hne2 (hB.ag hag3' rfl rfl) (by rw [hag3.at 29 rfl]; exact g29) (by rw [hag3.at 28 rfl]; exact g28) hT3 hV3
        generalize hr1' : prs B F 2 o (lexP B rr.2.1.2.2.1) = r1 at *
        refine g_V0i dX8_both_28 mv_X8_234 0 rfl rfl rfl (Nat.le_of_ble_eq_true rfl) (Nat.le_of_ble_eq_true rfl) (hc) (fun z1_ w1 hq => ?_)
        obtain ⟨v4, t4, rfl, hag4, q1, q2⟩ := hq
        cases hb : r1.1 with
        | true =>
          obtain ⟨j1, j2, j3, j4⟩ := q1 hb
          obtain ⟨g5, g6⟩ := hPG hb
          rw [nmV_ag hag3'] at j4
          have fin : ∀ y l2, joinF (nI 10) z z1_ = y → G E mX8_both (d + (F + 1) + 10) 0 0 A Q 0 0 5 [some (.ref (b 0)), some (.int y), l2] [] (mW E b v4 t4 f) := by
            intro y l2 hy
            refine ih2 _ v4 t4 _ _ ?_ ?_ ?_ (hag3'.tr hag4) j1 j2 ?_ ?_ hlo
            · dsimp only; omega
            · exact hb
            · exact g5
            · exact j3
            · dsimp only
              rw [h17]
              exact evStep (by omega) hev j4 hy
          rw [jn_10] at fin
          refine g_istore2 dX8_both_31 rfl rfl (g_iload1 dX8_both_32 (g_if_eq (tgt := 44) dX8_both_33 (by decide) (fun h33 => g_iconst ki_0 dX8_both_44 (g_istore1 dX8_both_45 rfl rfl (g_goto (tgt := 5) dX8_both_46 (by decide) (?s5_9)))) (fun h33 => g_iload2 dX8_both_36 (g_if_eq (tgt := 44) dX8_both_37 (by decide) (fun h37 => g_iconst ki_0 dX8_both_44 (g_istore1 dX8_both_45 rfl rfl (g_goto (tgt := 5) dX8_both_46 (by decide) (?s5_9')))) (fun h37 => g_iconst ki_1 dX8_both_40 (g_goto (tgt := 45) dX8_both_41 (by decide) (g_istore1 dX8_both_45 rfl rfl (g_goto (tgt := 5) dX8_both_46 (by decide) (?s5_9'')))))))))
          all_goals exact fin _ _ (by first | (rw [g_bi1 (by omega)]; done) | (rw [g_bi0 (by omega)]))
        | false =>
          rw [loopB_f _ _ _ _ (r1.1, r1.2.1, rr.2.2 ++ (r1.2.2 ++ [nI rr.2.1.1])) hb] at hlo
          obtain ⟨j1, j2⟩ := q2 hb
          refine g_istore2 dX8_both_31 rfl rfl (g_iload1 dX8_both_32 (g_if_eq (tgt := 44) dX8_both_33 (by decide) (fun h33 => g_iconst ki_0 dX8_both_44 (g_istore1 dX8_both_45 rfl rfl (g_goto (tgt := 5) dX8_both_46 (by decide) (?s5_10)))) (fun h33 => g_iload2 dX8_both_36 (g_if_eq (tgt := 44) dX8_both_37 (by decide) (fun h37 => g_iconst ki_0 dX8_both_44 (g_istore1 dX8_both_45 rfl rfl (g_goto (tgt := 5) dX8_both_46 (by decide) (?s5_10')))) (fun h37 => g_iconst ki_1 dX8_both_40 (g_goto (tgt := 45) dX8_both_41 (by decide) (g_istore1 dX8_both_45 rfl rfl (g_goto (tgt := 5) dX8_both_46 (by decide) (?s5_10'')))))))))
          all_goals exact out v4 t4 _ _ (by rw [← hlo]; exact hb) (hag3'.tr hag4) j1 (by rw [← hlo]; exact j2)
  refine g_aload0 dX8_both_0 (?c1_11)
  have hPG := prs_PG B F 2 o _ hV
  have hc := ih o P v t f B ti ho hne2 hB h29 h28 hT hV
  generalize hr1' : prs B F 2 o P = r1 at *
  refine g_V0i dX8_both_1 mv_X8_234 0 rfl rfl rfl (Nat.le_of_ble_eq_true rfl) (Nat.le_of_ble_eq_true rfl) (hc) (fun z1_ w1 hq => ?_)
  obtain ⟨v4, t4, rfl, hag4, q1, q2⟩ := hq
  refine g_istore1 dX8_both_4 rfl rfl (?s5_12)
  cases hb : r1.1 with
  | true =>
    obtain ⟨j1, j2, j3, j4⟩ := q1 hb
    obtain ⟨g5, g6⟩ := hPG hb
    exact loop 160 r1 v4 t4 _ _ (by have := hB.1; omega) hb g5 hag4 j1 j2 j3 j4 hF
  | false =>
    rw [loopB_f _ _ _ _ _ hb] at hF
    obtain ⟨j1, j2⟩ := q2 hb
    exact out v4 t4 _ _ (by rw [← hF]; exact hb) hag4 j1 (by rw [← hF]; exact j2)
set_option maxRecDepth 20000 in
set_option maxHeartbeats 4000000 in
theorem c_either (hN : g_N E) {F : Nat} (ih : McL E b d F 1) : McL E b d (F + 1) 0 := by
  intro o P v t f B ti ho hne hB h29 h28 hT hV
  show g_Ci E mX8_either _ _ _ _
  generalize hF : prs B (F + 1) 0 o P = r
  rw [prs, if_pos rfl] at hF
  have hne2 : needN 1 o ≤ F := by unfold needN at *; omega
  refine g_enterI hN.1 (by decide) [some (.ref (b 0)), none, none] rfl (Nat.le_of_ble_eq_true rfl) (fun A Q hQ => ?_)
  have tc0 := tc_0; have tc1 := tc_1; have tc111 := tc_111; have tc114 := tc_114
  have out : ∀ v2 t2 z l2, r.1 = false → agV mK v v2 → v2 29 = 1 → v2 30 = nI r.2.1.2.1 → G E mX8_either (d + (F + 1) + 10) 0 0 A Q 0 0 5 [some (.ref (b 0)), some (.int z), l2] [] (mW E b v2 t2 f) := by
    intro v2 t2 z l2 hr hag g29 g30
    have z29 : (v2 29).toInt = 1 := by rw [g29]; decide
    refine g_aload0 dX8_either_5 (g_bipush kb_111 dX8_either_6 (g_bipush kb_114 dX8_either_8 (g_iconst ki_0 dX8_either_10 (g_iconst ki_0 dX8_either_11 (g_iconst ki_0 dX8_either_12 (g_iconst ki_0 dX8_either_13 (g_iconst ki_0 dX8_either_14 (g_iconst ki_0 dX8_either_15 (?c16)))))))))
    refine g_V8i dX8_either_16 mv_X8_190 0 rfl rfl rfl (Nat.le_of_ble_eq_true rfl) (Nat.le_of_ble_eq_true rfl) (c_isWbad (d := d + F + 7) hN (by omega) _ _ _ _ _ _ _ _) (fun r1 w1 hq => ?_)
    obtain ⟨rfl, rfl⟩ := hq
    refine g_if_eq (tgt := 48) dX8_either_19 (by decide) (fun h19 => g_iload1 dX8_either_48 (g_iret rfl dX8_either_49 (Nat.le_of_ble_eq_true rfl) (Nat.le_of_ble_eq_true rfl) ?q49_2)) (fun h19 => ?s22_2)
    case s22_2 => omega
    case q49_2 => exact hQ _ _ (McP.bad2 hr rfl hag g29 g30)
  have loop : ∀ u (rr : PR) v2 t2 z l2, B.length ≤ rr.2.1.2.1 + u → rr.1 = true → PsV B rr.2.1 → agV mK v v2 → v2 29 = 0 → v2 28 = nI o → MyT B rr.2.1 (v2 25) (v2 26) (v2 24) t2 → (∀ s, rr.2.2.foldl (work1 (nmV v)) s = z :: s) → loopB B (fun t => t == 9) (prs B F 1 o) u rr = r → G E mX8_either (d + (F + 1) + 10) 0 0 A Q 0 0 5 [some (.ref (b 0)), some (.int z), l2] [] (mW E b v2 t2 f) := by
    intro u
    induction u with
    | zero =>
      intro rr v2 t2 z l2 hat hr1 hV2 hag g29 g28 hT2 hev hlo
      rw [loopB] at hlo
      subst hlo
      have := hV2.2.2.2 (by have := hV2.1; omega)
      refine g_aload0 dX8_either_5 (g_bipush kb_111 dX8_either_6 (g_bipush kb_114 dX8_either_8 (g_iconst ki_0 dX8_either_10 (g_iconst ki_0 dX8_either_11 (g_iconst ki_0 dX8_either_12 (g_iconst ki_0 dX8_either_13 (g_iconst ki_0 dX8_either_14 (g_iconst ki_0 dX8_either_15 (?c16_3)))))))))
      refine g_V8i dX8_either_16 mv_X8_190 0 rfl rfl rfl (Nat.le_of_ble_eq_true rfl) (Nat.le_of_ble_eq_true rfl) (c_isW9 (d := d + F + 7) hN (hB.ag hag rfl rfl) hT2 g29) (fun r1 w1 hq => ?_)
      obtain ⟨rfl, rfl⟩ := hq
      refine g_if_eq (tgt := 48) dX8_either_19 (by decide) (fun h19 => g_iload1 dX8_either_48 (g_iret rfl dX8_either_49 (Nat.le_of_ble_eq_true rfl) (Nat.le_of_ble_eq_true rfl) ?q49_4)) (fun h19 => ?s22_4)
      all_goals try simp only [g_biz, Int32.toInt_toInt64, tl_m4611686018427387904, tl_m1, tl_0, tl_1, tl_2, tl_3, tl_4, tl_5, tl_9, tl_10, tl_20, tl_40, tl_43, tl_48, tl_57, tl_60, tl_97, tl_99, tl_122, tl_255] at *
      case s22_4 => omega
      case q49_4 => exact hQ _ _ ⟨v2, t2, rfl, hag, fun _ => ⟨g29, g28, hT2, hev⟩, fun q => by rw [hr1] at q; cases q⟩
    | succ u ih2 =>
      intro rr v2 t2 z l2 hat hr1 hV2 hag g29 g28 hT2 hev hlo
      rw [loopB] at hlo
      refine g_aload0 dX8_either_5 (g_bipush kb_111 dX8_either_6 (g_bipush kb_114 dX8_either_8 (g_iconst ki_0 dX8_either_10 (g_iconst ki_0 dX8_either_11 (g_iconst ki_0 dX8_either_12 (g_iconst ki_0 dX8_either_13 (g_iconst ki_0 dX8_either_14 (g_iconst ki_0 dX8_either_15 (?c16_5)))))))))
      refine g_V8i dX8_either_16 mv_X8_190 0 rfl rfl rfl (Nat.le_of_ble_eq_true rfl) (Nat.le_of_ble_eq_true rfl) (c_isW9 (d := d + F + 7) hN (hB.ag hag rfl rfl) hT2 g29) (fun r1 w1 hq => ?_)
      obtain ⟨rfl, rfl⟩ := hq
      refine g_if_eq (tgt := 48) dX8_either_19 (by decide) (fun h19 => g_iload1 dX8_either_48 (g_iret rfl dX8_either_49 (Nat.le_of_ble_eq_true rfl) (Nat.le_of_ble_eq_true rfl) ?q49_6)) (fun h19 => ?s22_6)
      all_goals try simp only [g_biz, Int32.toInt_toInt64, tl_m4611686018427387904, tl_m1, tl_0, tl_1, tl_2, tl_3, tl_4, tl_5, tl_9, tl_10, tl_20, tl_40, tl_43, tl_48, tl_57, tl_60, tl_97, tl_99, tl_122, tl_255] at *
      case q49_6 =>
        rw [if_neg (fun q => by have := beq_iff_eq.mp q.2; omega)] at hlo
        subst hlo
        exact hQ _ _ ⟨v2, t2, rfl, hag, fun _ => ⟨g29, g28, hT2, hev⟩, fun q => by rw [hr1] at q; cases q⟩
      case s22_6 =>
        have h17 : rr.2.1.1 = 9 := by omega
        rw [if_pos ⟨hr1, by rw [h17]; rfl⟩] at hlo
        obtain ⟨hV3, hat3⟩ := hV2.next (by omega)
        refine g_aload0 dX8_either_22 (?c23_7)
        refine g_V0v dX8_either_23 mv_X8_187 0 rfl rfl rfl (Nat.le_of_ble_eq_true rfl) (Nat.le_of_ble_eq_true rfl) (c_mnext (d := d + F + 7) hN (hB.ag hag rfl rfl) hT2 hV2 (by omega)) (fun w1 hq => ?_)
        obtain ⟨v3, t3, rfl, hag3, hT3⟩ := hq
        have hag3' : agV mK v v3 := hag.tr (hag3.wk rfl)
        refine g_aload0 dX8_either_26 (?c27_8)
        have hPG := prs_PG B F 1 o _ hV3
        have hc := ih o _ v3 t3 f B ti ho hne2 (hB.ag hag3' rfl rfl) (by rw [hag3.at 29 rfl]; exact g29) (by rw [hag3.at 28 rfl]; exact g28) hT3 hV3
        generalize hr1' : prs B F 1 o (lexP B rr.2.1.2.2.1) = r1 at *
        refine g_V0i dX8_either_27 mv_X8_242 0 rfl rfl rfl (Nat.le_of_ble_eq_true rfl) (Nat.le_of_ble_eq_true rfl) (hc) (fun z1_ w1 hq => ?_)
        obtain ⟨v4, t4, rfl, hag4, q1, q2⟩ := hq
        cases hb : r1.1 with
        | true =>
          obtain ⟨j1, j2, j3, j4⟩ := q1 hb
          obtain ⟨g5, g6⟩ := hPG hb
          rw [nmV_ag hag3'] at j4
          have fin : ∀ y l2, joinF (nI 9) z z1_ = y → G E mX8_either (d + (F + 1) + 10) 0 0 A Q 0 0 5 [some (.ref (b 0)), some (.int y), l2] [] (mW E b v4 t4 f) := by
            intro y l2 hy
            refine ih2 _ v4 t4 _ _ ?_ ?_ ?_ (hag3'.tr hag4) j1 j2 ?_ ?_ hlo
            · dsimp only; omega
            · exact hb
            · exact g5
            · exact j3
            · dsimp only
              rw [h17]
              exact evStep (by omega) hev j4 hy
          rw [jn_9] at fin
          refine g_istore2 dX8_either_30 rfl rfl (g_iload1 dX8_either_31 (g_if_ne (tgt := 39) dX8_either_32 (by decide) (fun h32 => g_iconst ki_1 dX8_either_39 (g_goto (tgt := 44) dX8_either_40 (by decide) (g_istore1 dX8_either_44 rfl rfl (g_goto (tgt := 5) dX8_either_45 (by decide) (?s5_9))))) (fun h32 => g_iload2 dX8_either_35 (g_if_eq (tgt := 43) dX8_either_36 (by decide) (fun h36 => g_iconst ki_0 dX8_either_43 (g_istore1 dX8_either_44 rfl rfl (g_goto (tgt := 5) dX8_either_45 (by decide) (?s5_9')))) (fun h36 => g_iconst ki_1 dX8_either_39 (g_goto (tgt := 44) dX8_either_40 (by decide) (g_istore1 dX8_either_44 rfl rfl (g_goto (tgt := 5) dX8_either_45 (by decide) (?s5_9'')))))))))
          all_goals exact fin _ _ (by first | (rw [g_bi1 (by omega)]; done) | (rw [g_bi0 (by omega)]))
        | false =>
          rw [loopB_f _ _ _ _ (r1.1, r1.2.1, rr.2.2 ++ (r1.2.2 ++ [nI rr.2.1.1])) hb] at hlo
          obtain ⟨j1, j2⟩ := q2 hb
          refine g_istore2 dX8_either_30 rfl rfl (g_iload1 dX8_either_31 (g_if_ne (tgt := 39) dX8_either_32 (by decide) (fun h32 => g_iconst ki_1 dX8_either_39 (g_goto (tgt := 44) dX8_either_40 (by decide) (g_istore1 dX8_either_44 rfl rfl (g_goto (tgt := 5) dX8_either_45 (by decide) (?s5_10))))) (fun h32 => g_iload2 dX8_either_35 (g_if_eq (tgt := 43) dX8_either_36 (by decide) (fun h36 => g_iconst ki_0 dX8_either_43 (g_istore1 dX8_either_44 rfl rfl (g_goto (tgt := 5) dX8_either_45 (by decide) (?s5_10')))) (fun h36 => g_iconst ki_1 dX8_either_39 (g_goto (tgt := 44) dX8_either_40 (by decide) (g_istore1 dX8_either_44 rfl rfl (g_goto (tgt := 5) dX8_either_45 (by decide) (?s5_10'')))))))))
          all_goals exact out v4 t4 _ _ (by rw [← hlo]; exact hb) (hag3'.tr hag4) j1 (by rw [← hlo]; exact j2)
  refine g_aload0 dX8_either_0 (?c1_11)
  have hPG := prs_PG B F 1 o _ hV
  have hc := ih o P v t f B ti ho hne2 hB h29 h28 hT hV
  generalize hr1' : prs B F 1 o P = r1 at *
  refine g_V0i dX8_either_1 mv_X8_242 0 rfl rfl rfl (Nat.le_of_ble_eq_true rfl) (Nat.le_of_ble_eq_true rfl) (hc) (fun z1_ w1 hq => ?_)
  obtain ⟨v4, t4, rfl, hag4, q1, q2⟩ := hq
  refine g_istore1 dX8_either_4 rfl rfl (?s5_12)
  cases hb : r1.1 with
  | true =>
    obtain ⟨j1, j2, j3, j4⟩ := q1 hb
    obtain ⟨g5, g6⟩ := hPG hb
    exact loop 160 r1 v4 t4 _ _ (by have := hB.1; omega) hb g5 hag4 j1 j2 j3 j4 hF
  | false =>
    rw [loopB_f _ _ _ _ _ hb] at hF
    obtain ⟨j1, j2⟩ := q2 hb
    exact out v4 t4 _ _ (by rw [← hF]; exact hb) hag4 j1 (by rw [← hF]; exact j2)
end S79
