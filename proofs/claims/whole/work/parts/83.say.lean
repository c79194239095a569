abbrev mK3 : List Nat := [16, 17, 18, 19, 20, 21, 22, 23, 24, 25, 26, 28, 29, 30]
theorem nI_off {p q : Nat} (hp : p < 1000) (hq : q < 1000) : (if (nI p).toInt < (nI q).toInt then nI q - nI p else nI p - nI q) = nI (if p < q then q - p else p - q) := by
  have ep := t_nI (n := p) (by omega)
  have eq := t_nI (n := q) (by omega)
  by_cases h : p < q
  · rw [if_pos (by omega), if_pos h]; exact pk_sub (by omega)
  · rw [if_neg (by omega), if_neg h]; exact pk_sub (by omega)
section S83
variable {E : GE} {d : Nat} {b : Nat → Nat} {v : Nat → Int32} {t : Int64} {f : Nat → Nat → Int32} {B : List Nat} {D : Dg} {C : List Int32} {e : Nat → Nat} {r : Nat}
set_option maxRecDepth 20000 in
set_option maxHeartbeats 4000000 in
theorem c_X8_says (hN : g_N E) (hD : dgOK D) (hM : MD v f D) (hr : v 4 = nI r) (hr6 : r < 6) (hTB : TB B r f) (hX : TX B C e) {part x y : Nat} (hp : part < 3) (hx : x < D.1.length) (hy : y < D.1.length) (near : Int32) : g_Ci E mX8_says (d + 63) [.ref (b 0), .int (nI part), .int (nI x), .int (nI y), .int near] (mW E b v t f) (fun z w => z.toInt = rlI C e part (nmF D.1.length D.2.1 x y near (nI (plN D (min x y)))) ∧ ∃ v' t', w = mW E b v' t' f ∧ agV mK3 v v') := by
  obtain ⟨hn, l1, l2, l3, l4, b1, b2, b3, b4, b5, hnd⟩ := id hD
  have ex := t_nI (n := x) (by omega)
  have ey := t_nI (n := y) (by omega)
  have ep := t_nI (n := part) (by omega)
  have gx := getD_at (l := D.2.1) (i := x) (by omega)
  have gy := getD_at (l := D.2.1) (i := y) (by omega)
  have bx := b2 _ (List.mem_of_getElem? gx)
  have bY := b2 _ (List.mem_of_getElem? gy)
  refine g_enterI hN.1 (by decide) [some (.ref (b 0)), some (.int (nI part)), some (.int (nI x)), some (.int (nI y)), some (.int near), none, none] rfl (Nat.le_of_ble_eq_true rfl) (fun A Q hQ => ?_)
  have tcm99 := tc_m99; have tc0 := tc_0; have tc1 := tc_1; have tc99 := tc_99
  have hw : ∀ v1 : Nat → Int32, v1 16 = nI (min x y) → v1 17 = nI (max x y) → v1 18 = nI (pdN D.2.1 x y) → v1 19 = near → v1 20 = nI D.1.length → agV mK3 v v1 → G E mX8_says (d + 63) 0 0 A Q 0 0 73 [some (.ref (b 0)), some (.int (nI part)), some (.int (nI x)), some (.int (nI y)), some (.int near), some (.int (nI (min x y))), some (.int (nI (max x y)))] [.int (nI (min x y)), .ref (b 0), .ref (b 0)] (mW E b v1 t f) := by
    intro v1 k16 k17 k18 k19 k20 hag
    have hm := dg_mem hD (x := min x y) (by omega)
    refine g_V1i dX8_says_73 mv_X8_127 0 rfl rfl rfl (Nat.le_of_ble_eq_true rfl) (Nat.le_of_ble_eq_true rfl) (c_X8_placeOf (d := d + 61) hN hD (hM.ag (S2 := []) hag agF.rf rfl rfl) hm) (fun r1 w1 hq => ?_)
    obtain ⟨rfl, rfl⟩ := hq
    refine g_mput fl_X8_209 fp_7_21 ms_21 rfl rfl rfl dX8_says_76 (g_aload0 dX8_says_79 (g_aload0 dX8_says_80 (g_mget fl_X8_252 mg_4 dX8_says_81 (g_iload1 dX8_says_84 (?c85)))))
    rw [upd_o (by decide), hag.at 4 rfl, hr]
    have hag1 : agV mK3 v (upd v1 21 (nI (plN D (min x y)))) := hag.up 21 _ rfl
    have hnm : ∀ i, i ≤ 5 → nmF D.1.length D.2.1 x y near (nI (plN D (min x y))) i = nmV (upd v1 21 (nI (plN D (min x y)))) i := by
      intro i hi
      unfold nmV
      rw [if_pos hi]
      match i, hi with
      | 0, _ => rw [upd_o (by decide)]; exact k16.symm
      | 1, _ => rw [upd_o (by decide)]; exact k17.symm
      | 2, _ => rw [upd_o (by decide)]; exact k18.symm
      | 3, _ => rw [upd_o (by decide)]; exact k19.symm
      | 4, _ => rw [upd_o (by decide)]; exact k20.symm
      | 5, _ => rw [upd_s]; rfl
    generalize upd v1 21 (nI (plN D (min x y))) = v2 at *
    refine g_V2i dX8_says_85 mv_X8_249 0 rfl rfl rfl (Nat.le_of_ble_eq_true rfl) (Nat.le_of_ble_eq_true rfl) (c_X8_read (d := d) hN hr6 hTB (nI part)) (fun z1_ w1 hq => ?_)
    obtain ⟨v3, t3, rfl, hag2, q1, -⟩ := hq
    obtain ⟨-, hev⟩ := q1 hX.lit.1
    rw [ep] at hev
    have hev2 : ∀ s, (if part = 0 then rdp1 B else if part = 1 then rdp2 B else rdp3 B).2.2.foldl (work1 (nmV v2)) s = z1_ :: s := by
      intro s
      have := hev s
      match part, hp with
      | 0, _ => exact this
      | 1, _ => exact this
      | 2, _ => exact this
    have hv := hX.val (nmV v2) hp hev2
    have hag3 : agV mK3 v v3 := hag1.tr (hag2.wk rfl)
    have hrl : rlI C e part (nmF D.1.length D.2.1 x y near (nI (plN D (min x y)))) = max (if part = 1 then -99 else 0) (min 99 z1_.toInt) := by
      unfold rlI rpnV
      rw [rpnR_congr hnm]
      unfold rpnV at hv
      rw [hv]
    rw [hrl] at hQ
    have tc99 := tc_99
    refine g_iload1 dX8_says_88 (g_iconst ki_1 dX8_says_89 (g_icmp_ne (tgt := 98) dX8_says_90 (by decide) (fun h90 => g_iconst ki_0 dX8_says_98 (g_bipush kb_99 dX8_says_99 (r_X8_within hN mv_X8_258 dX8_says_101 (Nat.le_of_ble_eq_true rfl) (Nat.le_of_ble_eq_true rfl) rfl (g_iret rfl dX8_says_104 (Nat.le_of_ble_eq_true rfl) (Nat.le_of_ble_eq_true rfl) ?q104_2)))) (fun h90 => g_bipush kb_m99 dX8_says_93 (g_goto (tgt := 99) dX8_says_95 (by decide) (g_bipush kb_99 dX8_says_99 (r_X8_within hN mv_X8_258 dX8_says_101 (Nat.le_of_ble_eq_true rfl) (Nat.le_of_ble_eq_true rfl) rfl (g_iret rfl dX8_says_104 (Nat.le_of_ble_eq_true rfl) (Nat.le_of_ble_eq_true rfl) ?q104_2')))))))
    case q104_2 =>
      rw [if_neg (by omega)] at hQ
      refine hQ _ _ ⟨?_, v3, t3, rfl, hag3⟩
      split <;> (try split) <;> omega
    case q104_2' =>
      rw [if_pos (by omega)] at hQ
      refine hQ _ _ ⟨?_, v3, t3, rfl, hag3⟩
      split <;> (try split) <;> omega
  have main : G E mX8_says (d + 63) 0 0 A Q 0 0 24 [some (.ref (b 0)), some (.int (nI part)), some (.int (nI x)), some (.int (nI y)), some (.int near), some (.int (nI (min x y))), some (.int (nI (max x y)))] [] (mW E b v t f) := by
    refine g_aload0 dX8_says_24 (g_iload5 dX8_says_25 (g_mput fl_X8_194 fp_7_16 ms_16 rfl rfl rfl dX8_says_27 (g_aload0 dX8_says_30 (g_iload6 dX8_says_31 (g_mput fl_X8_197 fp_7_17 ms_17 rfl rfl rfl dX8_says_33 (g_aload0 dX8_says_36 (g_aload0 dX8_says_37 (g_mget fl_X8_26 mg_8 dX8_says_38 (g_iload2 dX8_says_41 (g_mia ma_8 dX8_says_42 ?b42_3 (g_aload0 dX8_says_43 (g_mget fl_X8_26 mg_8 dX8_says_44 (g_iload3 dX8_says_47 (g_mia ma_8 dX8_says_48 ?b48_3 (r_X8_off hN mv_X8_255 dX8_says_49 (Nat.le_of_ble_eq_true rfl) (Nat.le_of_ble_eq_true rfl) rfl (g_mput fl_X8_200 fp_7_18 ms_18 rfl rfl rfl dX8_says_52 (g_aload0 dX8_says_55 (g_iload4 dX8_says_56 (g_mput fl_X8_203 fp_7_19 ms_19 rfl rfl rfl dX8_says_58 (g_aload0 dX8_says_61 (g_aload0 dX8_says_62 (g_mget fl_X8_103 mg_12 dX8_says_63 (g_mput fl_X8_206 fp_7_20 ms_20 rfl rfl rfl dX8_says_66 (g_aload0 dX8_says_69 (g_aload0 dX8_says_70 (g_iload5 dX8_says_71 (?c73_3)))))))))))))))))))))))))))
    case b42_3 => omega
    case b48_3 => omega
    rw [ex, ey, Int.toNat_natCast, Int.toNat_natCast, hM.2.2.1.at gx, hM.2.2.1.at gy, nI_off (by omega) (by omega)]
    refine hw _ ?_ ?_ ?_ ?_ ?_ (((((agV.rf.up 16 _ rfl).up 17 _ rfl).up 18 _ rfl).up 19 _ rfl).up 20 _ rfl)
    · simp only [upd, Nat.reduceEqDiff, if_false, if_true]
    · simp only [upd, Nat.reduceEqDiff, if_false, if_true]
    · simp only [upd, Nat.reduceEqDiff, if_false, if_true]; rfl
    · simp only [upd, Nat.reduceEqDiff, if_false, if_true]
    · simp only [upd, Nat.reduceEqDiff, if_false, if_true]; exact hM.1
  refine g_iload2 dX8_says_0 (g_iload3 dX8_says_1 (g_icmp_ge (tgt := 9) dX8_says_2 (by decide) (fun h2 => g_iload3 dX8_says_9 (g_istore5 dX8_says_10 rfl rfl (g_iload2 dX8_says_12 (g_iload3 dX8_says_13 (g_icmp_ge (tgt := 21) dX8_says_14 (by decide) (fun h14 => g_iload2 dX8_says_21 (g_istore6 dX8_says_22 rfl rfl (?s24_4))) (fun h14 => g_iload3 dX8_says_17 (g_goto (tgt := 22) dX8_says_18 (by decide) (g_istore6 dX8_says_22 rfl rfl (?s24_4'))))))))) (fun h2 => g_iload2 dX8_says_5 (g_goto (tgt := 10) dX8_says_6 (by decide) (g_istore5 dX8_says_10 rfl rfl (g_iload2 dX8_says_12 (g_iload3 dX8_says_13 (g_icmp_ge (tgt := 21) dX8_says_14 (by decide) (fun h14 => g_iload2 dX8_says_21 (g_istore6 dX8_says_22 rfl rfl (?s24_4''))) (fun h14 => g_iload3 dX8_says_17 (g_goto (tgt := 22) dX8_says_18 (by decide) (g_istore6 dX8_says_22 rfl rfl (?s24_4'''))))))))))))
  case s24_4 =>
    have := main
    rw [Nat.min_eq_right (by omega), Nat.max_eq_left (by omega)] at this
    exact this
  case s24_4' => omega
  case s24_4'' => omega
  case s24_4''' =>
    have := main
    rw [Nat.min_eq_left (by omega), Nat.max_eq_right (by omega)] at this
    exact this
set_option maxRecDepth 20000 in
set_option maxHeartbeats 4000000 in
theorem c_X8_told2 (hN : g_N E) (hD : dgOK D) (hM : MD v f D) (hr : v 4 = nI r) (hr6 : r < 6) (hTB : TB B r f) (hX : TX B C e) {part x y : Nat} (hp : part < 3) (hx : x < D.1.length) (hy : y < D.1.length) : g_Ci E mX8_told2 (d + 64) [.ref (b 0), .int (nI part), .int (nI x), .int (nI y)] (mW E b v t f) (fun z w => z.toInt = rhI D C e part x y ∧ ∃ v' t', w = mW E b v' t' f ∧ agV mK3 v v') := by
  have hn := hD.1
  have mx := dg_mem hD hx
  have my := dg_mem hD hy
  have px := List.idxOf_lt_length_of_mem mx
  have py := List.idxOf_lt_length_of_mem my
  have h4 := hD.2.2.2.2.1
  refine g_enterI hN.1 (by decide) [some (.ref (b 0)), some (.int (nI part)), some (.int (nI x)), some (.int (nI y))] rfl (Nat.le_of_ble_eq_true rfl) (fun A Q hQ => ?_)
  skip
  refine g_aload0 dX8_told2_0 (g_iload1 dX8_told2_1 (g_iload2 dX8_told2_2 (g_iload3 dX8_told2_3 (g_aload0 dX8_told2_4 (g_iload2 dX8_told2_5 (?c6))))))
  refine g_V1i dX8_told2_6 mv_X8_127 0 rfl rfl rfl (Nat.le_of_ble_eq_true rfl) (Nat.le_of_ble_eq_true rfl) (c_X8_placeOf (d := d + 62) hN hD hM mx) (fun r1 w1 hq => ?_)
  obtain ⟨rfl, rfl⟩ := hq
  refine g_aload0 dX8_told2_9 (g_iload3 dX8_told2_10 (?c11_2))
  refine g_V1i dX8_told2_11 mv_X8_127 0 rfl rfl rfl (Nat.le_of_ble_eq_true rfl) (Nat.le_of_ble_eq_true rfl) (c_X8_placeOf (d := d + 62) hN hD hM my) (fun r1 w1 hq => ?_)
  obtain ⟨rfl, rfl⟩ := hq
  refine r_X8_off hN mv_X8_255 dX8_told2_14 (Nat.le_of_ble_eq_true rfl) (Nat.le_of_ble_eq_true rfl) rfl (?c17_3)
  rw [nI_off (by unfold plN; omega) (by unfold plN; omega)]
  refine g_V4i dX8_told2_17 mv_X8_262 0 rfl rfl rfl (Nat.le_of_ble_eq_true rfl) (Nat.le_of_ble_eq_true rfl) (c_X8_says (d := d) hN hD hM hr hr6 hTB hX hp hx hy _) (fun r1 w1 hq => ?_)
  obtain ⟨hz, v2, t2, rfl, hag⟩ := hq
  refine g_iret rfl dX8_told2_20 (Nat.le_of_ble_eq_true rfl) (Nat.le_of_ble_eq_true rfl) ?q20_4
  exact hQ _ _ ⟨hz, v2, t2, rfl, hag⟩
set_option maxRecDepth 20000 in
set_option maxHeartbeats 4000000 in
theorem c_X8_asks (hN : g_N E) (hD : dgOK D) (hM : MD v f D) (hr : v 4 = nI r) (hr6 : r < 6) (hTB : TB B r f) (hX : TX B C e) (x y k : Int32) : g_Ci E mX8_asks (d + 65) [.ref (b 0), .int x, .int y, .int k] (mW E b v t f) (fun z w => z.toInt = sAsks D C e x y k ∧ ∃ v' t', w = mW E b v' t' f ∧ agV mK3 v v') := by
  obtain ⟨n0, n1, n2⟩ := hM.n1 hD.1
  refine g_enterI hN.1 (by decide) [some (.ref (b 0)), some (.int x), some (.int y), some (.int k)] rfl (Nat.le_of_ble_eq_true rfl) (fun A Q hQ => ?_)
  have tcm100000 := tc_m100000
  unfold sAsks at hQ
  have no : ¬ ((0 ≤ x.toInt ∧ x.toInt < D.1.length) ∧ (0 ≤ y.toInt ∧ y.toInt < D.1.length) ∧ ¬ x.toInt = y.toInt ∧ (0 ≤ k.toInt ∧ k.toInt ≤ 2)) → Q (some (.int (-100000))) (mW E b v t f) := by
    intro h
    rw [if_neg h] at hQ
    exact hQ _ _ ⟨tc_m100000, v, t, rfl, agV.rf⟩
  refine g_aload0 dX8_asks_0 (g_iload1 dX8_asks_1 (r_X8_isDog hN mv_X8_119 dX8_asks_2 (Nat.le_of_ble_eq_true rfl) (Nat.le_of_ble_eq_true rfl) rfl (g_if_eq (tgt := 43) dX8_asks_5 (by decide) (fun h5 => g_ldc_w kc_X8_269 dX8_asks_43 (g_iret rfl dX8_asks_46 (Nat.le_of_ble_eq_true rfl) (Nat.le_of_ble_eq_true rfl) ?q46)) (fun h5 => g_aload0 dX8_asks_8 (g_iload2 dX8_asks_9 (r_X8_isDog hN mv_X8_119 dX8_asks_10 (Nat.le_of_ble_eq_true rfl) (Nat.le_of_ble_eq_true rfl) rfl (g_if_eq (tgt := 43) dX8_asks_13 (by decide) (fun h13 => g_ldc_w kc_X8_269 dX8_asks_43 (g_iret rfl dX8_asks_46 (Nat.le_of_ble_eq_true rfl) (Nat.le_of_ble_eq_true rfl) ?q46')) (fun h13 => g_iload1 dX8_asks_16 (g_iload2 dX8_asks_17 (g_icmp_eq (tgt := 43) dX8_asks_18 (by decide) (fun h18 => g_ldc_w kc_X8_269 dX8_asks_43 (g_iret rfl dX8_asks_46 (Nat.le_of_ble_eq_true rfl) (Nat.le_of_ble_eq_true rfl) ?q46'')) (fun h18 => g_iload3 dX8_asks_21 (g_i2l dX8_asks_22 (g_lconst kl_0 dX8_asks_23 (g_ldc2_w kj_X8_123 dX8_asks_24 (r_X8_in hN mv_X8_106 dX8_asks_27 (Nat.le_of_ble_eq_true rfl) (Nat.le_of_ble_eq_true rfl) rfl (g_if_eq (tgt := 43) dX8_asks_30 (by decide) (fun h30 => g_ldc_w kc_X8_269 dX8_asks_43 (g_iret rfl dX8_asks_46 (Nat.le_of_ble_eq_true rfl) (Nat.le_of_ble_eq_true rfl) ?q46''')) (fun h30 => g_aload0 dX8_asks_33 (g_iload3 dX8_asks_34 (g_iload1 dX8_asks_35 (g_iload2 dX8_asks_36 (?c37)))))))))))))))))))))
  all_goals try simp only [g_biz, Int32.toInt_toInt64, tl_m4611686018427387904, tl_m1, tl_0, tl_1, tl_2, tl_3, tl_4, tl_5, tl_9, tl_10, tl_20, tl_40, tl_43, tl_48, tl_57, tl_60, tl_97, tl_99, tl_122, tl_255] at *
  all_goals try exact no (by omega)
  case c37 =>
    rw [if_pos (by omega)] at hQ
    have h3 := c_X8_told2 (b := b) (t := t) (d := d) hN hD hM hr hr6 hTB hX (part := k.toInt.toNat) (x := x.toInt.toNat) (y := y.toInt.toNat) (by omega) (by omega) (by omega)
    rw [← t_of (a := k) (by omega), ← t_of (a := x) (by omega), ← t_of (a := y) (by omega)] at h3
    refine g_V3i dX8_asks_37 mv_X8_266 0 rfl rfl rfl (Nat.le_of_ble_eq_true rfl) (Nat.le_of_ble_eq_true rfl) (h3) (fun r1 w1 hq => ?_)
    obtain ⟨hz, v2, t2, rfl, hag⟩ := hq
    refine g_goto (tgt := 46) dX8_asks_40 (by decide) (g_iret rfl dX8_asks_46 (Nat.le_of_ble_eq_true rfl) (Nat.le_of_ble_eq_true rfl) ?q46_2)
    exact hQ _ _ ⟨hz, v2, t2, rfl, hag⟩
end S83
