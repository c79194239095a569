/-! fetch -/
def Afo (E : GE) (a : Nat → Nat) (D : Dg) (r : Nat) (L : List Cr) (im tc : Int32) (F : List Nat) (w : va_W) : Prop := ∃ w1 en fd pr tr n0 le, Apk E a D r L im tc w1 ∧ Lst F fd ∧ w = w1 ++ ordW E a 37 en fd pr tr n0 le
def hoN (D : Dg) (x : Nat) : Nat := D.2.2.2.1.getD x 0
def hdN (D : Dg) (x y : Nat) : Nat := absN (hoN D x) (hoN D y)
def dnE (n : Nat) (f : Nat → Nat → Nat) (x y : Nat) (pr : Nat → Int32) : Prop := ∀ p x' y', p < n → x' < n → y' < n → (x' < x ∨ x' = x ∧ y' < y) → pr (sltN p x' y') = nI (f x' y')
theorem dnE.set {n x y : Nat} {f : Nat → Nat → Nat} {pr pr' : Nat → Int32} (hn : n ≤ 6) (hx : x < n) (hy : y < n) (h : dnE n f x y pr) (h1 : ∀ p, p < n → pr' (sltN p x y) = nI (f x y)) (h2 : ∀ j, (∀ p, p < n → j ≠ sltN p x y) → pr' j = pr j) : dnE n f x (y + 1) pr' := by
  intro p x' y' k1 k2 k3 k4
  by_cases q : x' = x ∧ y' = y
  · obtain ⟨rfl, rfl⟩ := q
    exact h1 p k1
  · rw [h2 _ (fun p2 hp2 q2 => q ⟨(slt_inj (by omega) (by omega) (by omega) (by omega) q2).2.1, (slt_inj (by omega) (by omega) (by omega) (by omega) q2).2.2⟩)]
    exact h p x' y' k1 k2 k3 (by omega)
section S59
variable {E : GE} {d : Nat} {a : Nat → Nat} {im tc : Int32} {w : va_W} {D : Dg} {r : Nat} {L : List Cr} {F : List Nat}
set_option maxRecDepth 20000 in
set_option maxHeartbeats 4000000 in
theorem c_findFetchOrder (hN : g_N E) (hw : Afo E a D r L im tc F w) : g_Ci E mX7_findFetchOrder (d + 11) [.ref (a 0)] w (fun z w' => z = nI (srF D.1.length (fun _ => hdN D) (hoN D)).1 ∧ Afo E a D r L im tc (srF D.1.length (fun _ => hdN D) (hoN D)).2 w') := by
  obtain ⟨w1, en, fd, pr, tr, n0, le, hA, -, rfl⟩ := hw
  have hA0 := hA
  obtain ⟨kd, pc, nb, hs, od, pl, ov, on, ot, be, rfl, hD, j1, j2, j3, j4, j5, hL, hpk, hrw⟩ := hA.lit
  obtain ⟨hn, l1, l2, l3, l4, b1, b2, b3, b4, b5, hnd⟩ := id hD
  have eD := t_nI (n := D.1.length) (by omega)
  have hho : ∀ x, x < D.1.length → hs x = nI (hoN D x) ∧ hoN D x ≤ 99 := fun x hx => by
    have g := getD_at (l := D.2.2.2.1) (i := x) (by omega)
    have := b4 _ (List.mem_of_getElem? g)
    exact ⟨j4.at g, by show D.2.2.2.1.getD x 0 ≤ 99; omega⟩
  refine g_enterI hN.1 (by decide) [some (.ref (a 0)), none, none] rfl (Nat.le_of_ble_eq_true rfl) (fun A Q hQ => ?_)
  have tc0 := tc_0; have tc1 := tc_1
  refine g_aload0 dX7_findFetchOrder_0 (g_get fl_X7_36 0 rfl rfl dX7_findFetchOrder_1 (g_aload0 dX7_findFetchOrder_4 (g_get fl_X7_10 0 rfl rfl dX7_findFetchOrder_5 (g_get fl_X7_110 1 rfl rfl dX7_findFetchOrder_8 (?c11)))))
  refine g_V1v dX7_findFetchOrder_11 mv_X7_238 13 rfl rfl rfl (Nat.le_of_ble_eq_true rfl) (Nat.le_of_ble_eq_true rfl) ((c_begin (d := d + 9) hN hn).frame (X := ((a 0, dolO a im tc) :: (packW E a 1 kd pc nb hs od (nI D.1.length) (nI r) ++ rowW E a 7 pl ov on ot be (nI L.length)))) (Y := [])) (fun w1 hq => ?_)
  obtain ⟨w3, ⟨en', rfl, hen⟩, rfl⟩ := hq
  have outer : ∀ t x en pr l2, x + t = D.1.length → (∀ x', x' < x → en x' = nI (hoN D x')) → dnE D.1.length (hdN D) x 0 pr → G E mX7_findFetchOrder (d + 11) 0 0 A Q 0 0 16 [some (.ref (a 0)), some (.int (nI x)), l2] [] (((a 0, dolO a im tc) :: (packW E a 1 kd pc nb hs od (nI D.1.length) (nI r) ++ rowW E a 7 pl ov on ot be (nI L.length))) ++ ordW E a 37 en fd pr tr (nI D.1.length) le) := by
    intro t
    induction t with
    | zero =>
      intro x en pr l2 hx he hdn
      have ex := t_nI (n := x) (by omega)
      have hprs : prIs D.1.length (fun _ => hdN D) (hoN D) en pr := by
        refine ⟨fun x hx => ⟨he x (by omega), (hho x hx).2⟩, fun p' f l k1 k2 k3 k4 => ⟨hdn p' f l (by omega) k2 k3 (by omega), ?_⟩⟩
        have q1 := (hho f k2).2
        have q2 := (hho l k3).2
        show hdN D f l ≤ 99
        unfold hdN absN
        split <;> omega
      refine g_iload1 dX7_findFetchOrder_16 (g_aload0 dX7_findFetchOrder_17 (g_get fl_X7_10 0 rfl rfl dX7_findFetchOrder_18 (g_get fl_X7_110 1 rfl rfl dX7_findFetchOrder_21 (g_icmp_ge (tgt := 101) dX7_findFetchOrder_24 (by decide) (fun h24 => g_aload0 dX7_findFetchOrder_101 (g_get fl_X7_36 0 rfl rfl dX7_findFetchOrder_102 (?c105_2))) (fun h24 => ?s27_2)))))
      case s27_2 => omega
      case c105_2 =>
        refine g_V0i dX7_findFetchOrder_105 mv_X7_249 13 rfl rfl rfl (Nat.le_of_ble_eq_true rfl) (Nat.le_of_ble_eq_true rfl) ((c_search (d := d) hN hn hprs).frame (X := ((a 0, dolO a im tc) :: (packW E a 1 kd pc nb hs od (nI D.1.length) (nI r) ++ rowW E a 7 pl ov on ot be (nI L.length)))) (Y := [])) (fun r1 w1 hq => ?_)
        obtain ⟨w3, ⟨fd', tr', le', rfl, q0, q1⟩, rfl⟩ := hq
        refine g_iret rfl dX7_findFetchOrder_108 (Nat.le_of_ble_eq_true rfl) (Nat.le_of_ble_eq_true rfl) ?q108_3
        unfold srF at hQ
        by_cases hz : D.1.length = 0
        · rw [if_pos hz] at hQ
          refine hQ _ _ ⟨q0 hz, _, _, fd', _, _, _, _, hA0, ?_, rfl⟩
          intro i x h
          simp at h
        · rw [if_neg hz] at hQ
          exact hQ _ _ ⟨(q1 hz).1, _, _, fd', _, _, _, _, hA0, (q1 hz).2, rfl⟩
    | succ t ih =>
      intro x en pr l2 hx he hdn
      have ex := t_nI (n := x) (by omega)
      have inner : ∀ u y en pr, y + u = D.1.length → (∀ x', x' < x + 1 → en x' = nI (hoN D x')) → dnE D.1.length (hdN D) x y pr → G E mX7_findFetchOrder (d + 11) 0 0 A Q 0 0 47 [some (.ref (a 0)), some (.int (nI x)), some (.int (nI y))] [] (((a 0, dolO a im tc) :: (packW E a 1 kd pc nb hs od (nI D.1.length) (nI r) ++ rowW E a 7 pl ov on ot be (nI L.length))) ++ ordW E a 37 en fd pr tr (nI D.1.length) le) := by
        intro u
        induction u with
        | zero =>
          intro y en pr hy he hdn
          have ey := t_nI (n := y) (by omega)
          refine g_iload2 dX7_findFetchOrder_47 (g_aload0 dX7_findFetchOrder_48 (g_get fl_X7_10 0 rfl rfl dX7_findFetchOrder_49 (g_get fl_X7_110 1 rfl rfl dX7_findFetchOrder_52 (g_icmp_ge (tgt := 95) dX7_findFetchOrder_55 (by decide) (fun h55 => g_iinc1 ki_1 dX7_findFetchOrder_95 rfl rfl (g_goto (tgt := 16) dX7_findFetchOrder_98 (by decide) (?s16_4))) (fun h55 => ?s58_4)))))
          case s58_4 => omega
          case s16_4 =>
            rw [nI_1]
            exact ih (x + 1) _ _ _ (by omega) he (fun p' x' y' k1 k2 k3 k4 => hdn p' x' y' k1 k2 k3 (by omega))
        | succ u ihu =>
          intro y en pr hy he hdn
          have ey := t_nI (n := y) (by omega)
          have q1 := hho x (by omega)
          have q2 := hho y (by omega)
          refine g_iload2 dX7_findFetchOrder_47 (g_aload0 dX7_findFetchOrder_48 (g_get fl_X7_10 0 rfl rfl dX7_findFetchOrder_49 (g_get fl_X7_110 1 rfl rfl dX7_findFetchOrder_52 (g_icmp_ge (tgt := 95) dX7_findFetchOrder_55 (by decide) (fun h55 => ?s95_5) (fun h55 => g_aload0 dX7_findFetchOrder_58 (g_get fl_X7_36 0 rfl rfl dX7_findFetchOrder_59 (g_iload1 dX7_findFetchOrder_62 (g_iload2 dX7_findFetchOrder_63 (g_aload0 dX7_findFetchOrder_64 (g_get fl_X7_10 0 rfl rfl dX7_findFetchOrder_65 (g_get fl_X7_129 1 rfl rfl dX7_findFetchOrder_68 (g_iload1 dX7_findFetchOrder_71 (g_iaload 5 rfl dX7_findFetchOrder_72 ?b72_5 (g_aload0 dX7_findFetchOrder_73 (g_get fl_X7_10 0 rfl rfl dX7_findFetchOrder_74 (g_get fl_X7_129 1 rfl rfl dX7_findFetchOrder_77 (g_iload2 dX7_findFetchOrder_80 (g_iaload 5 rfl dX7_findFetchOrder_81 ?b81_5 (g_isub dX7_findFetchOrder_82 (g_mabs wm_X7_306 dX7_findFetchOrder_83 (Nat.le_of_ble_eq_true rfl) (Nat.le_of_ble_eq_true rfl) rfl (?c86_5)))))))))))))))))))))
          case s95_5 => omega
          case b72_5 => exact ⟨by omega, by show _ < (6 : Int); omega⟩
          case b81_5 => exact ⟨by omega, by show _ < (6 : Int); omega⟩
          case c86_5 =>
            rw [ex, ey, Int.toNat_natCast, Int.toNat_natCast, q1.1, q2.1, nI_abs (by omega) (by omega)]
            refine g_V3v dX7_findFetchOrder_86 mv_X7_245 13 rfl rfl rfl (Nat.le_of_ble_eq_true rfl) (Nat.le_of_ble_eq_true rfl) ((c_priceEverywhere (d := d + 7) hN (f := x) (l := y) hn (by omega) (by omega) _).frame (X := ((a 0, dolO a im tc) :: (packW E a 1 kd pc nb hs od (nI D.1.length) (nI r) ++ rowW E a 7 pl ov on ot be (nI L.length)))) (Y := [])) (fun w1 hq => ?_)
            obtain ⟨w3, ⟨pr', rfl, p1, p2⟩, rfl⟩ := hq
            refine g_iinc2 ki_1 dX7_findFetchOrder_89 rfl rfl (g_goto (tgt := 47) dX7_findFetchOrder_92 (by decide) (?s47_6))
            rw [nI_1]
            exact ihu (y + 1) _ _ (by omega) he (hdn.set hn (by omega) (by omega) p1 p2)
      refine g_iload1 dX7_findFetchOrder_16 (g_aload0 dX7_findFetchOrder_17 (g_get fl_X7_10 0 rfl rfl dX7_findFetchOrder_18 (g_get fl_X7_110 1 rfl rfl dX7_findFetchOrder_21 (g_icmp_ge (tgt := 101) dX7_findFetchOrder_24 (by decide) (fun h24 => ?s101_7) (fun h24 => g_aload0 dX7_findFetchOrder_27 (g_get fl_X7_36 0 rfl rfl dX7_findFetchOrder_28 (g_get fl_X7_330 13 rfl rfl dX7_findFetchOrder_31 (g_iload1 dX7_findFetchOrder_34 (g_aload0 dX7_findFetchOrder_35 (g_get fl_X7_10 0 rfl rfl dX7_findFetchOrder_36 (g_get fl_X7_129 1 rfl rfl dX7_findFetchOrder_39 (g_iload1 dX7_findFetchOrder_42 (g_iaload 5 rfl dX7_findFetchOrder_43 ?b43_7 (g_iastore 14 rfl dX7_findFetchOrder_44 ?b44_7 (g_iconst ki_0 dX7_findFetchOrder_45 (g_istore2 dX7_findFetchOrder_46 rfl rfl (?s47_7)))))))))))))))))
      case s101_7 => omega
      case s47_7 =>
        refine inner D.1.length 0 _ _ (by omega) (fun x' hx' => ?_) hdn
        rw [ex, Int.toNat_natCast]
        unfold upd
        by_cases q : x' = x
        · rw [if_pos q, q]; exact (hho x (by omega)).1
        · rw [if_neg q]; exact he x' (by omega)
      all_goals exact ⟨by omega, by show _ < (6 : Int); omega⟩
  refine g_iconst ki_0 dX7_findFetchOrder_14 (g_istore1 dX7_findFetchOrder_15 rfl rfl (?s16_8))
  exact outer D.1.length 0 _ _ _ (by omega) (fun x' hx' => by omega) (fun p' x' y' k1 k2 k3 k4 => by omega)
set_option maxRecDepth 20000 in
theorem c_fetch (hN : g_N E) (hw : Afo E a D r L im tc F w) : g_Ci E mX7_fetch (d + 12) [.ref (a 0)] w (fun z w' => z = nI (srF D.1.length (fun _ => hdN D) (hoN D)).1 ∧ Afo E a D r L im tc (srF D.1.length (fun _ => hdN D) (hoN D)).2 w') := by
  have hw' := hw
  obtain ⟨w1, en, fd, pr, tr, n0, le, hA, -, rfl⟩ := hw
  obtain ⟨kd, pc, nb, hs, od, pl, ov, on, ot, be, rfl, -⟩ := hA.lit
  refine g_enterI hN.1 (by decide) [some (.ref (a 0))] rfl (Nat.le_of_ble_eq_true rfl) (fun A Q hQ => ?_)
  skip
  refine g_aload0 dX7_fetch_0 (?c1)
  refine g_V0i dX7_fetch_1 mv_X7_235 0 rfl rfl rfl (Nat.le_of_ble_eq_true rfl) (Nat.le_of_ble_eq_true rfl) (c_findFetchOrder (d := d) hN hw') (fun r1 w1 hq => ?_)
  refine g_iret rfl dX7_fetch_4 (Nat.le_of_ble_eq_true rfl) (Nat.le_of_ble_eq_true rfl) ?q4_2
  exact hQ _ _ hq
set_option maxRecDepth 20000 in
set_option maxHeartbeats 1000000 in
theorem c_fetched (hN : g_N E) (hw : Afo E a D r L im tc F w) (k : Int32) : g_Ci E mX7_fetched (d + 12) [.ref (a 0), .int k] w (fun z w' => (¬ (0 ≤ k.toInt ∧ k.toInt < D.1.length) → z = -2) ∧ (0 ≤ k.toInt ∧ k.toInt < D.1.length → ∀ x, (srF D.1.length (fun _ => hdN D) (hoN D)).2[k.toInt.toNat]? = some x → z = nI x) ∧ ∃ F', Afo E a D r L im tc F' w') := by
  have hw' := hw
  obtain ⟨w1, en, fd, pr, tr, n0, le, hA, hF, rfl⟩ := hw
  obtain ⟨kd, pc, nb, hs, od, pl, ov, on, ot, be, rfl, hD, -⟩ := hA.lit
  have hn := hD.1
  have eD := t_nI (n := D.1.length) (by omega)
  refine g_enterI hN.1 (by decide) [some (.ref (a 0)), some (.int k)] rfl (Nat.le_of_ble_eq_true rfl) (fun A Q hQ => ?_)
  have tcm2 := tc_m2; have tc0 := tc_0; have tc1 := tc_1
  have e2 : (nI D.1.length - 1).toInt = (D.1.length : Int) - 1 := by rw [t_sub (by omega) (by omega)]; omega
  have z0 := g_biz (p := ((0 : Int32).toInt ≤ k.toInt ∧ k.toInt ≤ (nI D.1.length - 1).toInt))
  refine g_iload1 dX7_fetched_0 (g_iconst ki_0 dX7_fetched_1 (g_aload0 dX7_fetched_2 (g_get fl_X7_10 0 rfl rfl dX7_fetched_3 (g_get fl_X7_110 1 rfl rfl dX7_fetched_6 (g_iconst ki_1 dX7_fetched_9 (g_isub dX7_fetched_10 (r_X7_isWithin hN mv_X7_100 dX7_fetched_11 (Nat.le_of_ble_eq_true rfl) (Nat.le_of_ble_eq_true rfl) rfl (g_if_ne (tgt := 20) dX7_fetched_14 (by decide) (fun h14 => g_aload0 dX7_fetched_20 (?c21)) (fun h14 => g_bipush kb_m2 dX7_fetched_17 (g_iret rfl dX7_fetched_19 (Nat.le_of_ble_eq_true rfl) (Nat.le_of_ble_eq_true rfl) ?q19))))))))))
  case q19 => exact hQ _ _ ⟨fun _ => rfl, fun q => by omega, F, hw'⟩
  case c21 =>
    refine g_V0i dX7_fetched_21 mv_X7_235 0 rfl rfl rfl (Nat.le_of_ble_eq_true rfl) (Nat.le_of_ble_eq_true rfl) (c_findFetchOrder (d := d) hN hw') (fun r1 w1 hq => ?_)
    obtain ⟨hz, hA3⟩ := hq
    have hA3' := hA3
    obtain ⟨w1, en, fd, pr, tr, n0, le, hA, hF, rfl⟩ := hA3
    obtain ⟨kd, pc, nb, hs, od, pl, ov, on, ot, be, rfl, hD, -⟩ := hA.lit
    refine g_pop dX7_fetched_24 rfl (g_aload0 dX7_fetched_25 (g_get fl_X7_36 0 rfl rfl dX7_fetched_26 (g_get fl_X7_212 13 rfl rfl dX7_fetched_29 (g_iload1 dX7_fetched_32 (g_iaload 15 rfl dX7_fetched_33 ?b33_2 (g_iret rfl dX7_fetched_34 (Nat.le_of_ble_eq_true rfl) (Nat.le_of_ble_eq_true rfl) ?q34_2))))))
    case b33_2 => exact ⟨by omega, by show _ < (6 : Int); omega⟩
    case q34_2 => exact hQ _ _ ⟨fun q => by omega, fun q x hx => hF _ _ hx, _, hA3'⟩
end S59
