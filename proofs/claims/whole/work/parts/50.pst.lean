/-! the post -/
noncomputable def rgB (D : Dg) (s q : Nat) : Bool := rightB (D.1.getD (D.2.2.2.2.getD q 0) 0) (D.2.2.1.getD (D.2.2.2.2.getD q 0) 0) q s
noncomputable def dorF (D : Dg) (s : Nat) : Nat → Int32
  | 0 => 0
  | t + 1 => if rgB D s t = true then dorF D s t ||| (1 <<< (nI (D.2.2.2.2.getD t 0) &&& 31)) else dorF D s t
noncomputable def wndF (D : Dg) (s : Nat) : Nat → Int32 × Int32
  | 0 => (0, 0)
  | t + 1 => if rgB D s t = true then ((wndF D s t).1, (wndF D s t).2 + 1) else ((wndF D s t).1 + (wndF D s t).2, (wndF D s t).2)
def puI (D : Dg) (q : Nat) : Int := max 0 (pullsI (D.1.getD (D.2.2.2.2.getD q 0) 0) (D.2.1.getD (D.2.2.2.2.getD q 0) 0) (D.2.2.1.getD (D.2.2.2.2.getD q 0) 0) q)
noncomputable def plgF (D : Dg) (s : Nat) : Nat → Int
  | 0 => 0
  | t + 1 => plgF D s t + (if rgB D s t = true then puI D t else - puI D t)
theorem puI_b {D : Dg} (hD : dgOK D) {q : Nat} (hq : q < D.1.length) : 0 ≤ puI D q ∧ puI D q ≤ 100 := by
  obtain ⟨hn, l1, l2, l3, l4, b1, b2, b3, b4, b5, hnd⟩ := hD
  have g1 := getD_at (l := D.2.2.2.2) (i := q) (by omega)
  have hx := b5 _ (List.mem_of_getElem? g1)
  have g3 := getD_at (l := D.2.1) (i := D.2.2.2.2.getD q 0) (by omega)
  have g4 := getD_at (l := D.2.2.1) (i := D.2.2.2.2.getD q 0) (by omega)
  have c3 := b2 _ (List.mem_of_getElem? g3)
  have c4 := b3 _ (List.mem_of_getElem? g4)
  unfold puI pullsI
  split
  · omega
  · split
    · omega
    · split
      · omega
      · split
        · omega
        · split
          · omega
          · omega
theorem plgF_b {D : Dg} (hD : dgOK D) (s : Nat) : ∀ t, t ≤ D.1.length → -(100 * (t : Int)) ≤ plgF D s t ∧ plgF D s t ≤ 100 * (t : Int)
  | 0, _ => by unfold plgF; omega
  | t + 1, h => by
    have h1 := plgF_b hD s t (by omega)
    have h2 := puI_b hD (q := t) (by omega)
    unfold plgF
    split <;> omega
section S50
variable {E : GE} {d : Nat} {a : Nat → Nat} {D : Dg} {r : Nat} {L : List Cr} {im tc : Int32} {w : va_W}
theorem Apk.right (hN : g_N E) (hw : Apk E a D r L im tc w) {q s : Nat} (hq : q < D.1.length) (hs : s ≤ D.1.length) : g_Ci E mX1_passesRight (d + 1) [.ref (a 1), .int (nI (D.2.2.2.2.getD q 0)), .int (nI q), .int (nI s)] w (fun v w' => v = g_bi (rgB D s q = true) ∧ w' = w) := by
  obtain ⟨wp, wr, hp, hr, rfl⟩ := hw
  obtain ⟨hn, l1, l2, l3, l4, b1, b2, b3, b4, b5, hnd⟩ := hp.1
  have g1 := getD_at (l := D.2.2.2.2) (i := q) (by omega)
  have hx := b5 _ (List.mem_of_getElem? g1)
  have := (c_passesRight (d := d) hN hp (q := q) (s := s) (getD_at (l := D.1) (i := D.2.2.2.2.getD q 0) (by omega)) (getD_at (l := D.2.2.1) (i := D.2.2.2.2.getD q 0) (by omega)) (by omega) (by omega)).frame (X := [(a 0, dolO a im tc)]) (Y := wr)
  exact this.post (fun z w' hz => by obtain ⟨w3, ⟨q1, rfl⟩, q4⟩ := hz; exact ⟨q1, q4⟩)
theorem Apk.pulls (hN : g_N E) (hw : Apk E a D r L im tc w) {q : Nat} (hq : q < D.1.length) : g_Ci E mX1_pulls (d + 2) [.ref (a 1), .int (nI (D.2.2.2.2.getD q 0)), .int (nI q)] w (fun v w' => v.toInt = puI D q ∧ w' = w) := by
  obtain ⟨wp, wr, hp, hr, rfl⟩ := hw
  obtain ⟨hn, l1, l2, l3, l4, b1, b2, b3, b4, b5, hnd⟩ := hp.1
  have g1 := getD_at (l := D.2.2.2.2) (i := q) (by omega)
  have hx := b5 _ (List.mem_of_getElem? g1)
  have := (c_pulls (d := d) hN hp (q := q) (getD_at (l := D.1) (i := D.2.2.2.2.getD q 0) (by omega)) (getD_at (l := D.2.1) (i := D.2.2.2.2.getD q 0) (by omega)) (getD_at (l := D.2.2.1) (i := D.2.2.2.2.getD q 0) (by omega)) (by omega)).frame (X := [(a 0, dolO a im tc)]) (Y := wr)
  exact this.post (fun z w' hz => by obtain ⟨w3, ⟨q1, rfl⟩, q4⟩ := hz; exact ⟨q1, q4⟩)
set_option maxRecDepth 20000 in
set_option maxHeartbeats 1000000 in
theorem c_dogsOnRight (hN : g_N E) (hw : Apk E a D r L im tc w) {s : Nat} (hs : s ≤ D.1.length) : g_Ci E mX7_dogsOnRight (d + 2) [.ref (a 0), .int (nI s)] w (fun z w' => z = dorF D s D.1.length ∧ w' = w) := by
  have hw' := hw
  obtain ⟨kd, pc, nb, hs', od, pl, ov, on, ot, be, rfl, hD, j1, j2, j3, j4, j5, hL, hpk, hrw⟩ := hw.lit
  obtain ⟨hn, l1, l2, l3, l4, b1, b2, b3, b4, b5, hnd⟩ := id hD
  refine g_enterI hN.1 (by decide) [some (.ref (a 0)), some (.int (nI s)), none, none] rfl (Nat.le_of_ble_eq_true rfl) (fun A Q hQ => ?_)
  have tc0 := tc_0; have tc1 := tc_1
  have e1 := t_nI (n := D.1.length) (by omega)
  have loop : ∀ t i, i + t = D.1.length → G E mX7_dogsOnRight (d + 2) 0 0 A Q 0 0 4 [some (.ref (a 0)), some (.int (nI s)), some (.int (dorF D s i)), some (.int (nI i))] [] ((a 0, dolO a im tc) :: (packW E a 1 kd pc nb hs' od (nI D.1.length) (nI r) ++ rowW E a 7 pl ov on ot be (nI L.length))) := by
    intro t
    induction t with
    | zero =>
      intro i hi
      have ei := t_nI (n := i) (by omega)
      refine g_iload3 dX7_dogsOnRight_4 (g_aload0 dX7_dogsOnRight_5 (g_get fl_X7_10 0 rfl rfl dX7_dogsOnRight_6 (g_get fl_X7_110 1 rfl rfl dX7_dogsOnRight_9 (g_icmp_ge (tgt := 57) dX7_dogsOnRight_12 (by decide) (fun h12 => g_iload2 dX7_dogsOnRight_57 (g_iret rfl dX7_dogsOnRight_58 (Nat.le_of_ble_eq_true rfl) (Nat.le_of_ble_eq_true rfl) ?q58)) (fun h12 => ?s15)))))
      case s15 => omega
      case q58 => exact hQ _ _ ⟨by rw [show i = D.1.length by omega], rfl⟩
    | succ t ih =>
      intro i hi
      have ei := t_nI (n := i) (by omega)
      have g1 := getD_at (l := D.2.2.2.2) (i := i) (by omega)
      have hnext := ih (i + 1) (by omega)
      rw [dorF] at hnext
      refine g_iload3 dX7_dogsOnRight_4 (g_aload0 dX7_dogsOnRight_5 (g_get fl_X7_10 0 rfl rfl dX7_dogsOnRight_6 (g_get fl_X7_110 1 rfl rfl dX7_dogsOnRight_9 (g_icmp_ge (tgt := 57) dX7_dogsOnRight_12 (by decide) (fun h12 => ?s57_2) (fun h12 => g_aload0 dX7_dogsOnRight_15 (g_get fl_X7_10 0 rfl rfl dX7_dogsOnRight_16 (g_aload0 dX7_dogsOnRight_19 (g_get fl_X7_10 0 rfl rfl dX7_dogsOnRight_20 (g_get fl_X7_152 1 rfl rfl dX7_dogsOnRight_23 (g_iload3 dX7_dogsOnRight_26 (g_iaload 6 rfl dX7_dogsOnRight_27 ?b27_2 (g_iload3 dX7_dogsOnRight_28 (g_iload1 dX7_dogsOnRight_29 (?c30_2))))))))))))))
      case s57_2 => omega
      case b27_2 => omega
      case c30_2 =>
        rw [ei, Int.toNat_natCast, j5.at g1]
        have z0 := g_biz (p := (rgB D s i = true))
        refine g_V3i dX7_dogsOnRight_30 mv_X7_343 1 rfl rfl rfl (Nat.le_of_ble_eq_true rfl) (Nat.le_of_ble_eq_true rfl) (hw'.right hN (q := i) (by omega) hs) (fun r1 w1 hq => ?_)
        obtain ⟨rfl, rfl⟩ := hq
        refine g_if_eq (tgt := 51) dX7_dogsOnRight_33 (by decide) (fun h33 => g_iinc3 ki_1 dX7_dogsOnRight_51 rfl rfl (g_goto (tgt := 4) dX7_dogsOnRight_54 (by decide) (?s4_3))) (fun h33 => g_iload2 dX7_dogsOnRight_36 (g_aload0 dX7_dogsOnRight_37 (g_get fl_X7_10 0 rfl rfl dX7_dogsOnRight_38 (g_get fl_X7_152 1 rfl rfl dX7_dogsOnRight_41 (g_iload3 dX7_dogsOnRight_44 (g_iaload 6 rfl dX7_dogsOnRight_45 ?b45_3 (r_X7_bit hN mv_X7_178 dX7_dogsOnRight_46 (Nat.le_of_ble_eq_true rfl) (Nat.le_of_ble_eq_true rfl) rfl (g_ior dX7_dogsOnRight_49 (g_istore2 dX7_dogsOnRight_50 rfl rfl (g_iinc3 ki_1 dX7_dogsOnRight_51 rfl rfl (g_goto (tgt := 4) dX7_dogsOnRight_54 (by decide) (?s4_3'))))))))))))
        case s4_3 =>
          rw [nI_1]
          rw [if_neg (z0.mp h33)] at hnext
          exact hnext
        case b45_3 => omega
        case s4_3' =>
          rw [nI_1, ei, Int.toNat_natCast, j5.at g1]
          rw [if_pos (Classical.not_not.mp (fun q => h33 (z0.mpr q)))] at hnext
          exact hnext
  refine g_iconst ki_0 dX7_dogsOnRight_0 (g_istore2 dX7_dogsOnRight_1 rfl rfl (g_iconst ki_0 dX7_dogsOnRight_2 (g_istore3 dX7_dogsOnRight_3 rfl rfl (?s4_4))))
  exact loop D.1.length 0 (by omega)
set_option maxRecDepth 20000 in
set_option maxHeartbeats 1000000 in
theorem c_woundAt (hN : g_N E) (hw : Apk E a D r L im tc w) {s : Nat} (hs : s ≤ D.1.length) : g_Ci E mX7_woundAt (d + 2) [.ref (a 0), .int (nI s)] w (fun z w' => z = (wndF D s D.1.length).1 ∧ w' = w) := by
  have hw' := hw
  obtain ⟨kd, pc, nb, hs', od, pl, ov, on, ot, be, rfl, hD, j1, j2, j3, j4, j5, hL, hpk, hrw⟩ := hw.lit
  obtain ⟨hn, l1, l2, l3, l4, b1, b2, b3, b4, b5, hnd⟩ := id hD
  refine g_enterI hN.1 (by decide) [some (.ref (a 0)), some (.int (nI s)), none, none, none] rfl (Nat.le_of_ble_eq_true rfl) (fun A Q hQ => ?_)
  have tc0 := tc_0; have tc1 := tc_1
  have e1 := t_nI (n := D.1.length) (by omega)
  have loop : ∀ t i, i + t = D.1.length → G E mX7_woundAt (d + 2) 0 0 A Q 0 0 7 [some (.ref (a 0)), some (.int (nI s)), some (.int (wndF D s i).1), some (.int (wndF D s i).2), some (.int (nI i))] [] ((a 0, dolO a im tc) :: (packW E a 1 kd pc nb hs' od (nI D.1.length) (nI r) ++ rowW E a 7 pl ov on ot be (nI L.length))) := by
    intro t
    induction t with
    | zero =>
      intro i hi
      have ei := t_nI (n := i) (by omega)
      refine g_iload4 dX7_woundAt_7 (g_aload0 dX7_woundAt_9 (g_get fl_X7_10 0 rfl rfl dX7_woundAt_10 (g_get fl_X7_110 1 rfl rfl dX7_woundAt_13 (g_icmp_ge (tgt := 58) dX7_woundAt_16 (by decide) (fun h16 => g_iload2 dX7_woundAt_58 (g_iret rfl dX7_woundAt_59 (Nat.le_of_ble_eq_true rfl) (Nat.le_of_ble_eq_true rfl) ?q59)) (fun h16 => ?s19)))))
      case s19 => omega
      case q59 => exact hQ _ _ ⟨by rw [show i = D.1.length by omega], rfl⟩
    | succ t ih =>
      intro i hi
      have ei := t_nI (n := i) (by omega)
      have g1 := getD_at (l := D.2.2.2.2) (i := i) (by omega)
      have hnext := ih (i + 1) (by omega)
      rw [wndF] at hnext
      refine g_iload4 dX7_woundAt_7 (g_aload0 dX7_woundAt_9 (g_get fl_X7_10 0 rfl rfl dX7_woundAt_10 (g_get fl_X7_110 1 rfl rfl dX7_woundAt_13 (g_icmp_ge (tgt := 58) dX7_woundAt_16 (by decide) (fun h16 => ?s58_2) (fun h16 => g_aload0 dX7_woundAt_19 (g_get fl_X7_10 0 rfl rfl dX7_woundAt_20 (g_aload0 dX7_woundAt_23 (g_get fl_X7_10 0 rfl rfl dX7_woundAt_24 (g_get fl_X7_152 1 rfl rfl dX7_woundAt_27 (g_iload4 dX7_woundAt_30 (g_iaload 6 rfl dX7_woundAt_32 ?b32_2 (g_iload4 dX7_woundAt_33 (g_iload1 dX7_woundAt_35 (?c36_2))))))))))))))
      case s58_2 => omega
      case b32_2 => omega
      case c36_2 =>
        rw [ei, Int.toNat_natCast, j5.at g1]
        have z0 := g_biz (p := (rgB D s i = true))
        refine g_V3i dX7_woundAt_36 mv_X7_343 1 rfl rfl rfl (Nat.le_of_ble_eq_true rfl) (Nat.le_of_ble_eq_true rfl) (hw'.right hN (q := i) (by omega) hs) (fun r1 w1 hq => ?_)
        obtain ⟨rfl, rfl⟩ := hq
        refine g_if_eq (tgt := 48) dX7_woundAt_39 (by decide) (fun h39 => g_iload2 dX7_woundAt_48 (g_iload3 dX7_woundAt_49 (g_iadd dX7_woundAt_50 (g_istore2 dX7_woundAt_51 rfl rfl (g_iinc4 ki_1 dX7_woundAt_52 rfl rfl (g_goto (tgt := 7) dX7_woundAt_55 (by decide) (?s7_3))))))) (fun h39 => g_iinc3 ki_1 dX7_woundAt_42 rfl rfl (g_goto (tgt := 52) dX7_woundAt_45 (by decide) (g_iinc4 ki_1 dX7_woundAt_52 rfl rfl (g_goto (tgt := 7) dX7_woundAt_55 (by decide) (?s7_3')))))
        case s7_3 =>
          rw [nI_1]
          rw [if_neg (z0.mp h39)] at hnext
          exact hnext
        case s7_3' =>
          rw [nI_1]
          rw [if_pos (Classical.not_not.mp (fun q => h39 (z0.mpr q)))] at hnext
          exact hnext
  refine g_iconst ki_0 dX7_woundAt_0 (g_istore2 dX7_woundAt_1 rfl rfl (g_iconst ki_0 dX7_woundAt_2 (g_istore3 dX7_woundAt_3 rfl rfl (g_iconst ki_0 dX7_woundAt_4 (g_istore4 dX7_woundAt_5 rfl rfl (?s7_4))))))
  exact loop D.1.length 0 (by omega)
set_option maxRecDepth 20000 in
set_option maxHeartbeats 1000000 in
theorem c_pullsTogether (hN : g_N E) (hw : Apk E a D r L im tc w) {s : Nat} (hs : s ≤ D.1.length) : g_Ci E mX7_pullsTogether (d + 3) [.ref (a 0), .int (nI s)] w (fun z w' => z.toInt = plgF D s D.1.length ∧ w' = w) := by
  have hw' := hw
  obtain ⟨kd, pc, nb, hs', od, pl, ov, on, ot, be, rfl, hD, j1, j2, j3, j4, j5, hL, hpk, hrw⟩ := hw.lit
  obtain ⟨hn, l1, l2, l3, l4, b1, b2, b3, b4, b5, hnd⟩ := id hD
  refine g_enterI hN.1 (by decide) [some (.ref (a 0)), some (.int (nI s)), none, none, none, none] rfl (Nat.le_of_ble_eq_true rfl) (fun A Q hQ => ?_)
  have tc0 := tc_0; have tc1 := tc_1
  have e1 := t_nI (n := D.1.length) (by omega)
  have loop : ∀ t i (v : Int32) l4 l5, i + t = D.1.length → v.toInt = plgF D s i → G E mX7_pullsTogether (d + 3) 0 0 A Q 0 0 4 [some (.ref (a 0)), some (.int (nI s)), some (.int v), some (.int (nI i)), l4, l5] [] ((a 0, dolO a im tc) :: (packW E a 1 kd pc nb hs' od (nI D.1.length) (nI r) ++ rowW E a 7 pl ov on ot be (nI L.length))) := by
    intro t
    induction t with
    | zero =>
      intro i v l4 l5 hi hv
      have ei := t_nI (n := i) (by omega)
      refine g_iload3 dX7_pullsTogether_4 (g_aload0 dX7_pullsTogether_5 (g_get fl_X7_10 0 rfl rfl dX7_pullsTogether_6 (g_get fl_X7_110 1 rfl rfl dX7_pullsTogether_9 (g_icmp_ge (tgt := 69) dX7_pullsTogether_12 (by decide) (fun h12 => g_iload2 dX7_pullsTogether_69 (g_iret rfl dX7_pullsTogether_70 (Nat.le_of_ble_eq_true rfl) (Nat.le_of_ble_eq_true rfl) ?q70)) (fun h12 => ?s15)))))
      case s15 => omega
      case q70 => exact hQ _ _ ⟨by rw [hv, show i = D.1.length by omega], rfl⟩
    | succ t ih =>
      intro i v l4 l5 hi hv
      have ei := t_nI (n := i) (by omega)
      have g1 := getD_at (l := D.2.2.2.2) (i := i) (by omega)
      have hb1 := plgF_b hD s i (by omega)
      have hb2 := puI_b hD (q := i) (by omega)
      refine g_iload3 dX7_pullsTogether_4 (g_aload0 dX7_pullsTogether_5 (g_get fl_X7_10 0 rfl rfl dX7_pullsTogether_6 (g_get fl_X7_110 1 rfl rfl dX7_pullsTogether_9 (g_icmp_ge (tgt := 69) dX7_pullsTogether_12 (by decide) (fun h12 => ?s69_2) (fun h12 => g_aload0 dX7_pullsTogether_15 (g_get fl_X7_10 0 rfl rfl dX7_pullsTogether_16 (g_get fl_X7_152 1 rfl rfl dX7_pullsTogether_19 (g_iload3 dX7_pullsTogether_22 (g_iaload 6 rfl dX7_pullsTogether_23 ?b23_2 (g_istore4 dX7_pullsTogether_24 rfl rfl (g_aload0 dX7_pullsTogether_26 (g_get fl_X7_10 0 rfl rfl dX7_pullsTogether_27 (g_iload4 dX7_pullsTogether_30 (g_iload3 dX7_pullsTogether_32 (?c33_2)))))))))))))))
      case s69_2 => omega
      case b23_2 => omega
      case c33_2 =>
        rw [ei, Int.toNat_natCast, j5.at g1]
        have z0 := g_biz (p := (rgB D s i = true))
        refine g_V2i dX7_pullsTogether_33 mv_X7_139 1 rfl rfl rfl (Nat.le_of_ble_eq_true rfl) (Nat.le_of_ble_eq_true rfl) (hw'.pulls hN (q := i) (by omega)) (fun r1 w1 hq => ?_)
        obtain ⟨hz, rfl⟩ := hq
        have hng : (-r1).toInt = - r1.toInt := t_neg (by omega)
        refine g_istore5 dX7_pullsTogether_36 rfl rfl (g_iload2 dX7_pullsTogether_38 (g_aload0 dX7_pullsTogether_39 (g_get fl_X7_10 0 rfl rfl dX7_pullsTogether_40 (g_iload4 dX7_pullsTogether_43 (g_iload3 dX7_pullsTogether_45 (g_iload1 dX7_pullsTogether_46 (?c47_3)))))))
        refine g_V3i dX7_pullsTogether_47 mv_X7_343 1 rfl rfl rfl (Nat.le_of_ble_eq_true rfl) (Nat.le_of_ble_eq_true rfl) (hw'.right hN (q := i) (by omega) hs) (fun r1 w1 hq => ?_)
        obtain ⟨rfl, rfl⟩ := hq
        refine g_if_eq (tgt := 58) dX7_pullsTogether_50 (by decide) (fun h50 => g_iload5 dX7_pullsTogether_58 (g_ineg dX7_pullsTogether_60 (g_iadd dX7_pullsTogether_61 (g_istore2 dX7_pullsTogether_62 rfl rfl (g_iinc3 ki_1 dX7_pullsTogether_63 rfl rfl (g_goto (tgt := 4) dX7_pullsTogether_66 (by decide) (?s4_4))))))) (fun h50 => g_iload5 dX7_pullsTogether_53 (g_goto (tgt := 61) dX7_pullsTogether_55 (by decide) (g_iadd dX7_pullsTogether_61 (g_istore2 dX7_pullsTogether_62 rfl rfl (g_iinc3 ki_1 dX7_pullsTogether_63 rfl rfl (g_goto (tgt := 4) dX7_pullsTogether_66 (by decide) (?s4_4')))))))
        case s4_4 =>
          rw [nI_1]
          refine ih (i + 1) _ _ _ (by omega) ?_
          rw [plgF, if_neg (z0.mp h50), t_add (by omega) (by omega), hv, hng, hz]
        case s4_4' =>
          rw [nI_1]
          refine ih (i + 1) _ _ _ (by omega) ?_
          rw [plgF, if_pos (Classical.not_not.mp (fun q => h50 (z0.mpr q))), t_add (by omega) (by omega), hv, hz]
  refine g_iconst ki_0 dX7_pullsTogether_0 (g_istore2 dX7_pullsTogether_1 rfl rfl (g_iconst ki_0 dX7_pullsTogether_2 (g_istore3 dX7_pullsTogether_3 rfl rfl (?s4_5))))
  exact loop D.1.length 0 0 _ _ (by omega) rfl
end S50
section S50b
variable {E : GE} {d : Nat} {a : Nat → Nat} {D : Dg} {r : Nat} {L : List Cr} {im tc : Int32} {w : va_W}
noncomputable def sPost (D : Dg) (x k : Int32) : Int :=
  if ¬ (0 ≤ x.toInt ∧ x.toInt ≤ D.1.length) then -100000
  else if k.toInt = 0 then (dorF D x.toInt.toNat D.1.length).toInt
  else if k.toInt = 1 then (wndF D x.toInt.toNat D.1.length).1.toInt
  else if k.toInt = 2 then plgF D x.toInt.toNat D.1.length
  else -100000
set_option maxRecDepth 20000 in
set_option maxHeartbeats 1000000 in
theorem c_post (hN : g_N E) (hw : Apk E a D r L im tc w) (x k : Int32) : g_Ci E mX7_post (d + 4) [.ref (a 0), .int x, .int k] w (fun z w' => z.toInt = sPost D x k ∧ w' = w) := by
  have hw' := hw
  obtain ⟨kd, pc, nb, hs', od, pl, ov, on, ot, be, rfl, hD, j1, j2, j3, j4, j5, hL, hpk, hrw⟩ := hw.lit
  have hn := hD.1
  have e1 := t_nI (n := D.1.length) (by omega)
  refine g_enterI hN.1 (by decide) [some (.ref (a 0)), some (.int x), some (.int k)] rfl (Nat.le_of_ble_eq_true rfl) (fun A Q hQ => ?_)
  have tcm100000 := tc_m100000; have tc0 := tc_0
  have z0 := g_biz (p := ((0 : Int32).toInt ≤ x.toInt ∧ x.toInt ≤ (nI D.1.length).toInt))
  unfold sPost at hQ
  refine g_iload1 dX7_post_0 (g_iconst ki_0 dX7_post_1 (g_aload0 dX7_post_2 (g_get fl_X7_10 0 rfl rfl dX7_post_3 (g_get fl_X7_110 1 rfl rfl dX7_post_6 (r_X7_isWithin hN mv_X7_100 dX7_post_9 (Nat.le_of_ble_eq_true rfl) (Nat.le_of_ble_eq_true rfl) rfl (g_if_ne (tgt := 18) dX7_post_12 (by decide) (fun h12 => g_iload2 dX7_post_18 (g_case (c := 0) (fun h19 => g_tsw_in (tgt := 44) 0 dX7_post_19 h19 (by decide) rfl (by decide) (g_aload0 dX7_post_44 (g_iload1 dX7_post_45 (?c46)))) (fun n19_0 => g_case (c := 1) (fun h19 => g_tsw_in (tgt := 50) 1 dX7_post_19 h19 (by decide) rfl (by decide) (g_aload0 dX7_post_50 (g_iload1 dX7_post_51 (?c52)))) (fun n19_1 => g_case (c := 2) (fun h19 => g_tsw_in (tgt := 56) 2 dX7_post_19 h19 (by decide) rfl (by decide) (g_aload0 dX7_post_56 (g_iload1 dX7_post_57 (?c58)))) (fun n19_2 => g_tsw_out (tgt := 62) dX7_post_19 (by omega) (by decide) (g_ldc kc_X7_143 dX7_post_62 (g_iret rfl dX7_post_64 (Nat.le_of_ble_eq_true rfl) (Nat.le_of_ble_eq_true rfl) ?q64))))))) (fun h12 => g_ldc kc_X7_143 dX7_post_15 (g_iret rfl dX7_post_17 (Nat.le_of_ble_eq_true rfl) (Nat.le_of_ble_eq_true rfl) ?q17))))))))
  case q17 => rw [if_pos (by omega)] at hQ; exact hQ _ _ ⟨tcm100000, rfl⟩
  all_goals rw [if_neg (by omega)] at hQ
  case q64 => rw [if_neg (by omega), if_neg (by omega), if_neg (by omega)] at hQ; exact hQ _ _ ⟨tcm100000, rfl⟩
  case c46 =>
    rw [if_pos (by omega)] at hQ
    have hc := c_dogsOnRight (d := d + 1) hN hw' (s := x.toInt.toNat) (by omega)
    rw [← t_of (a := x) (by omega)] at hc
    refine g_V1i dX7_post_46 mv_X7_222 0 rfl rfl rfl (Nat.le_of_ble_eq_true rfl) (Nat.le_of_ble_eq_true rfl) (hc) (fun r1 w1 hq => ?_)
    obtain ⟨rfl, rfl⟩ := hq
    refine g_iret rfl dX7_post_49 (Nat.le_of_ble_eq_true rfl) (Nat.le_of_ble_eq_true rfl) ?q49_2
    exact hQ _ _ ⟨rfl, rfl⟩
  case c52 =>
    rw [if_neg (by omega), if_pos (by omega)] at hQ
    have hc := c_woundAt (d := d + 1) hN hw' (s := x.toInt.toNat) (by omega)
    rw [← t_of (a := x) (by omega)] at hc
    refine g_V1i dX7_post_52 mv_X7_225 0 rfl rfl rfl (Nat.le_of_ble_eq_true rfl) (Nat.le_of_ble_eq_true rfl) (hc) (fun r1 w1 hq => ?_)
    obtain ⟨rfl, rfl⟩ := hq
    refine g_iret rfl dX7_post_55 (Nat.le_of_ble_eq_true rfl) (Nat.le_of_ble_eq_true rfl) ?q55_3
    exact hQ _ _ ⟨rfl, rfl⟩
  case c58 =>
    rw [if_neg (by omega), if_neg (by omega), if_pos (by omega)] at hQ
    have hc := c_pullsTogether (d := d) hN hw' (s := x.toInt.toNat) (by omega)
    rw [← t_of (a := x) (by omega)] at hc
    refine g_V1i dX7_post_58 mv_X7_228 0 rfl rfl rfl (Nat.le_of_ble_eq_true rfl) (Nat.le_of_ble_eq_true rfl) (hc) (fun r1 w1 hq => ?_)
    obtain ⟨hz, rfl⟩ := hq
    refine g_iret rfl dX7_post_61 (Nat.le_of_ble_eq_true rfl) (Nat.le_of_ble_eq_true rfl) ?q61_4
    exact hQ _ _ ⟨hz, rfl⟩
/-- the least wound, and where it is first met -/
noncomputable def bpF (D : Dg) : Nat → Nat × Int32
  | 0 => (0, (wndF D 0 D.1.length).1)
  | t + 1 => if (wndF D (t + 1) D.1.length).1.toInt < (bpF D t).2.toInt then (t + 1, (wndF D (t + 1) D.1.length).1) else bpF D t
noncomputable def sBestPost (D : Dg) (k : Int32) : Int32 := if ¬ (0 ≤ k.toInt ∧ k.toInt ≤ 1) then -2 else if k.toInt = 0 then nI (bpF D D.1.length).1 else (bpF D D.1.length).2
set_option maxRecDepth 20000 in
set_option maxHeartbeats 1000000 in
theorem c_bestPost (hN : g_N E) (hw : Apk E a D r L im tc w) (k : Int32) : g_Ci E mX7_bestPost (d + 3) [.ref (a 0), .int k] w (fun z w' => z = sBestPost D k ∧ w' = w) := by
  have hw' := hw
  obtain ⟨kd, pc, nb, hs', od, pl, ov, on, ot, be, rfl, hD, j1, j2, j3, j4, j5, hL, hpk, hrw⟩ := hw.lit
  have hn := hD.1
  have e1 := t_nI (n := D.1.length) (by omega)
  refine g_enterI hN.1 (by decide) [some (.ref (a 0)), some (.int k), none, none, none, none] rfl (Nat.le_of_ble_eq_true rfl) (fun A Q hQ => ?_)
  have tcm2 := tc_m2; have tc0 := tc_0; have tc1 := tc_1
  have z0 := g_biz (p := ((0 : Int32).toInt ≤ k.toInt ∧ k.toInt ≤ (1 : Int32).toInt))
  unfold sBestPost at hQ
  have loop : ∀ t i l5, (0 ≤ k.toInt ∧ k.toInt ≤ 1) → i + t = D.1.length → G E mX7_bestPost (d + 3) 0 0 A Q 0 0 23 [some (.ref (a 0)), some (.int k), some (.int (nI (bpF D i).1)), some (.int (bpF D i).2), some (.int (nI (i + 1))), l5] [] ((a 0, dolO a im tc) :: (packW E a 1 kd pc nb hs' od (nI D.1.length) (nI r) ++ rowW E a 7 pl ov on ot be (nI L.length))) := by
    intro t
    induction t with
    | zero =>
      intro i l5 hk hi
      have ei := t_nI (n := i + 1) (by omega)
      rw [if_neg (by omega)] at hQ
      have he : i = D.1.length := by omega
      refine g_iload4 dX7_bestPost_23 (g_aload0 dX7_bestPost_25 (g_get fl_X7_10 0 rfl rfl dX7_bestPost_26 (g_get fl_X7_110 1 rfl rfl dX7_bestPost_29 (g_icmp_gt (tgt := 61) dX7_bestPost_32 (by decide) (fun h32 => g_iload1 dX7_bestPost_61 (g_if_ne (tgt := 69) dX7_bestPost_62 (by decide) (fun h62 => g_iload3 dX7_bestPost_69 (g_iret rfl dX7_bestPost_70 (Nat.le_of_ble_eq_true rfl) (Nat.le_of_ble_eq_true rfl) ?q70)) (fun h62 => g_iload2 dX7_bestPost_65 (g_goto (tgt := 70) dX7_bestPost_66 (by decide) (g_iret rfl dX7_bestPost_70 (Nat.le_of_ble_eq_true rfl) (Nat.le_of_ble_eq_true rfl) ?q70'))))) (fun h32 => ?s35)))))
      case s35 => omega
      case q70 => rw [if_neg (by omega)] at hQ; exact hQ _ _ ⟨by rw [he], rfl⟩
      case q70' => rw [if_pos (by omega)] at hQ; exact hQ _ _ ⟨by rw [he], rfl⟩
    | succ t ih =>
      intro i l5 hk hi
      have ei := t_nI (n := i + 1) (by omega)
      have hnext := fun l5 => ih (i + 1) l5 hk (by omega)
      rw [bpF] at hnext
      refine g_iload4 dX7_bestPost_23 (g_aload0 dX7_bestPost_25 (g_get fl_X7_10 0 rfl rfl dX7_bestPost_26 (g_get fl_X7_110 1 rfl rfl dX7_bestPost_29 (g_icmp_gt (tgt := 61) dX7_bestPost_32 (by decide) (fun h32 => ?s61_2) (fun h32 => g_aload0 dX7_bestPost_35 (g_iload4 dX7_bestPost_36 (?c38_2)))))))
      case s61_2 => omega
      case c38_2 =>
        refine g_V1i dX7_bestPost_38 mv_X7_225 0 rfl rfl rfl (Nat.le_of_ble_eq_true rfl) (Nat.le_of_ble_eq_true rfl) (c_woundAt hN hw' (s := i + 1) (by omega)) (fun r1 w1 hq => ?_)
        obtain ⟨rfl, rfl⟩ := hq
        refine g_istore5 dX7_bestPost_41 rfl rfl (g_iload5 dX7_bestPost_43 (g_iload3 dX7_bestPost_45 (g_icmp_ge (tgt := 55) dX7_bestPost_46 (by decide) (fun h46 => g_iinc4 ki_1 dX7_bestPost_55 rfl rfl (g_goto (tgt := 23) dX7_bestPost_58 (by decide) (?s23_3))) (fun h46 => g_iload5 dX7_bestPost_49 (g_istore3 dX7_bestPost_51 rfl rfl (g_iload4 dX7_bestPost_52 (g_istore2 dX7_bestPost_54 rfl rfl (g_iinc4 ki_1 dX7_bestPost_55 rfl rfl (g_goto (tgt := 23) dX7_bestPost_58 (by decide) (?s23_3'))))))))))
        case s23_3 =>
          rw [nI_1]
          rw [if_neg (by omega)] at hnext
          exact hnext _
        case s23_3' =>
          rw [nI_1]
          rw [if_pos (by omega)] at hnext
          exact hnext _
  refine g_iload1 dX7_bestPost_0 (g_iconst ki_0 dX7_bestPost_1 (g_iconst ki_1 dX7_bestPost_2 (r_X7_isWithin hN mv_X7_100 dX7_bestPost_3 (Nat.le_of_ble_eq_true rfl) (Nat.le_of_ble_eq_true rfl) rfl (g_if_ne (tgt := 12) dX7_bestPost_6 (by decide) (fun h6 => g_iconst ki_0 dX7_bestPost_12 (g_istore2 dX7_bestPost_13 rfl rfl (g_aload0 dX7_bestPost_14 (g_iconst ki_0 dX7_bestPost_15 (?c16_4))))) (fun h6 => g_bipush kb_m2 dX7_bestPost_9 (g_iret rfl dX7_bestPost_11 (Nat.le_of_ble_eq_true rfl) (Nat.le_of_ble_eq_true rfl) ?q11_4))))))
  case q11_4 => rw [if_pos (by omega)] at hQ; exact hQ _ _ ⟨rfl, rfl⟩
  case c16_4 =>
    refine g_V1i dX7_bestPost_16 mv_X7_225 0 rfl rfl rfl (Nat.le_of_ble_eq_true rfl) (Nat.le_of_ble_eq_true rfl) (c_woundAt hN hw' (s := 0) (by omega)) (fun r1 w1 hq => ?_)
    obtain ⟨rfl, rfl⟩ := hq
    refine g_istore3 dX7_bestPost_19 rfl rfl (g_iconst ki_1 dX7_bestPost_20 (g_istore4 dX7_bestPost_21 rfl rfl (?s23_5)))
    exact loop D.1.length 0 _ (by omega) (by omega)
end S50b
