/-! with the row in thought -/
def Ath (E : GE) (a : Nat → Nat) (D : Dg) (r : Nat) (L : List Cr) (im tc : Int32) (w : va_W) : Prop := ∃ w1 wt Lt, Apk E a D r L im tc w1 ∧ Row E a 31 Lt wt ∧ w = w1 ++ wt
def woC (s : Nat) (c : Cr) : Cr := (bitN (c.2.2.2.2 &&& (63 ^^^ s)), c.2.1, 0, 0, 0)
def woB (s : Nat) (c : Cr) : Bool := !s.testBit c.2.2.1 && !s.testBit c.2.2.2.1
def woF (s : Nat) (acc : List Cr) (c : Cr) : List Cr := if woB s c then layL acc (woC s c) else acc
def woL (s : Nat) (L : List Cr) : List Cr := L.foldl (woF s) []
theorem wo_bits : ∀ o1, o1 < 6 → ∀ o2, o2 < 6 → ∀ s, s < 64 → ((((1 <<< (nI o1 &&& 31)) ||| (1 <<< (nI o2 &&& 31)) : Int32) &&& nI s).toInt = 0 ↔ (!s.testBit o1 && !s.testBit o2) = true) := by decide +kernel
theorem wo_not : ∀ b, b < 64 → ∀ s, s < 64 → nI b &&& (nI s ^^^ -1) = nI (b &&& (63 ^^^ s)) := by decide +kernel
theorem wo_lt (b s : Nat) (hb : b < 64) : b &&& (63 ^^^ s) < 64 := Nat.lt_of_le_of_lt Nat.and_le_left hb
theorem woF_len (s : Nat) : ∀ (l acc : List Cr), (l.foldl (woF s) acc).length ≤ acc.length + l.length
  | [], acc => by simp
  | c :: l, acc => by
    rw [List.foldl_cons, List.length_cons]
    have h1 := woF_len s l (woF s acc c)
    have h2 : (woF s acc c).length ≤ acc.length + 1 := by
      unfold woF
      split
      · exact layL_len _ _
      · omega
    omega
section S45
variable {E : GE} {d : Nat} {a : Nat → Nat} {D : Dg} {r : Nat} {L : List Cr} {im tc : Int32} {w : va_W}
theorem Ath.mk {w1 wt : va_W} {Lt : List Cr} (h1 : Apk E a D r L im tc w1) (h2 : Row E a 31 Lt wt) : Ath E a D r L im tc (w1 ++ wt) := ⟨w1, wt, Lt, h1, h2, rfl⟩
set_option maxRecDepth 20000 in
set_option maxHeartbeats 1000000 in
theorem c_leftWithout (hN : g_N E) (hw : Ath E a D r L im tc w) (hv : plOK D.1.length L) (hD6 : D.1.length ≤ 6) {s : Nat} (hs64 : s < 64) : g_Ci E mX7_leftWithout (d + 4) [.ref (a 0), .int (nI s)] w (fun y w' => y = nI (woL s L).length ∧ Ath E a D r L im tc w') := by
  obtain ⟨w1, wt, Lt, ⟨wp, wr, hp, hr, rfl⟩, ht, rfl⟩ := hw
  have hA : ∀ x, Row E a 31 x = Row E a 31 x := fun _ => rfl
  have hp' := hp
  have hr' := hr
  obtain ⟨hD, kd, pc, nb, hs, od, rfl, -⟩ := hp
  obtain ⟨hL, pl, ov, on, ot, be, rfl, hrl⟩ := hr
  obtain ⟨-, pl2, ov2, on2, ot2, be2, rfl, -⟩ := ht
  have eL := t_nI (n := L.length) (by omega)
  refine g_enterI hN.1 (by decide) [some (.ref (a 0)), some (.int (nI s)), none, none] rfl (Nat.le_of_ble_eq_true rfl) (fun A Q hQ => ?_)
  have tcm1 := tc_m1; have tc0 := tc_0; have tc1 := tc_1
  have loop : ∀ t i wt, i + t = L.length → Row E a 31 ((L.take i).foldl (woF s) []) wt → G E mX7_leftWithout (d + 4) 0 0 A Q 0 0 18 [some (.ref (a 0)), some (.int (nI s)), some (.ref (a 7)), some (.int (nI i))] [] (((a 0, dolO a im tc) :: (packW E a 1 kd pc nb hs od (nI D.1.length) (nI r) ++ rowW E a 7 pl ov on ot be (nI L.length))) ++ wt) := by
    intro t
    induction t with
    | zero =>
      intro i wt hi hwt
      have ei := t_nI (n := i) (by omega)
      rw [List.take_of_length_le (by omega)] at hwt
      have hwt' := hwt
      obtain ⟨-, pl3, ov3, on3, ot3, be3, rfl, -⟩ := hwt
      refine g_iload3 dX7_leftWithout_18 (g_aload2 dX7_leftWithout_19 (g_get fl_X7_107 7 rfl rfl dX7_leftWithout_20 (g_icmp_ge (tgt := 71) dX7_leftWithout_23 (by decide) (fun h23 => g_aload0 dX7_leftWithout_71 (g_get fl_X7_30 0 rfl rfl dX7_leftWithout_72 (g_get fl_X7_107 13 rfl rfl dX7_leftWithout_75 (g_iret rfl dX7_leftWithout_78 (Nat.le_of_ble_eq_true rfl) (Nat.le_of_ble_eq_true rfl) ?q78)))) (fun h23 => ?s26))))
      case s26 => omega
      case q78 => exact hQ _ _ ⟨rfl, _, _, _, ⟨_, _, hp', hr', rfl⟩, hwt', rfl⟩
    | succ t ih =>
      intro i wt hi hwt
      have ei := t_nI (n := i) (by omega)
      obtain ⟨c, hc⟩ : ∃ c, L[i]? = some c := ⟨L[i], List.getElem?_eq_getElem (by omega)⟩
      have hrc := hrl i c hc
      have hcv := hv c (List.mem_of_getElem? hc)
      have hlen : ((L.take i).foldl (woF s) []).length < 40 := by
        have := woF_len s (L.take i) []
        rw [List.length_take] at this
        simp at this
        omega
      have hstep : (L.take (i + 1)).foldl (woF s) [] = woF s ((L.take i).foldl (woF s) []) c := by
        rw [List.take_succ, hc, List.foldl_append]; rfl
      have hwb := wo_bits c.2.2.1 (by omega) c.2.2.2.1 (by omega) s hs64
      have hwt' := hwt
      obtain ⟨-, pl3, ov3, on3, ot3, be3, rfl, -⟩ := hwt
      refine g_iload3 dX7_leftWithout_18 (g_aload2 dX7_leftWithout_19 (g_get fl_X7_107 7 rfl rfl dX7_leftWithout_20 (g_icmp_ge (tgt := 71) dX7_leftWithout_23 (by decide) (fun h23 => ?s71_2) (fun h23 => g_aload2 dX7_leftWithout_26 (g_iload3 dX7_leftWithout_27 (?c28_2))))))
      case s71_2 => omega
      case c28_2 =>
        refine g_sub (ws' := ((a 0, dolO a im tc) :: packW E a 1 kd pc nb hs od (nI D.1.length) (nI r)) ++ (rowW E a 7 pl ov on ot be (nI L.length) ++ rowW E a 31 pl3 ov3 on3 ot3 be3 (nI ((L.take i).foldl (woF s) []).length))) [0, 1, 2, 3, 4, 5, 6, 7, 8, 9, 10, 11, 12, 13, 14, 15, 16, 17, 18] (by decide) rfl ?_
        refine g_V1i dX7_leftWithout_28 mv_X7_181 7 rfl rfl rfl (Nat.le_of_ble_eq_true rfl) (Nat.le_of_ble_eq_true rfl) ((c_dogsOf hN (by omega)).frame) (fun r1 w1 hq => ?_)
        obtain ⟨w3, ⟨rfl, rfl⟩, rfl⟩ := hq
        rw [ei, Int.toNat_natCast, hrc.2.2.2.1, hrc.2.2.2.2.1]
        refine g_iload1 dX7_leftWithout_31 (g_iand dX7_leftWithout_32 (g_if_ne (tgt := 65) dX7_leftWithout_33 (by decide) (fun h33 => g_iinc3 ki_1 dX7_leftWithout_65 rfl rfl (g_goto (tgt := 18) dX7_leftWithout_68 (by decide) (?s18_3))) (fun h33 => g_aload0 dX7_leftWithout_36 (g_get fl_X7_30 0 rfl rfl dX7_leftWithout_37 (g_aload2 dX7_leftWithout_40 (g_get fl_X7_319 7 rfl rfl dX7_leftWithout_41 (g_iload3 dX7_leftWithout_44 (g_iaload 12 rfl dX7_leftWithout_45 ?b45_3 (g_iload1 dX7_leftWithout_46 (g_iconst ki_m1 dX7_leftWithout_47 (g_ixor dX7_leftWithout_48 (g_iand dX7_leftWithout_49 (r_J6_bitCount_0f7a4 hN mv_X7_195 dX7_leftWithout_50 (Nat.le_of_ble_eq_true rfl) (Nat.le_of_ble_eq_true rfl) rfl (g_aload2 dX7_leftWithout_53 (g_get fl_X7_175 7 rfl rfl dX7_leftWithout_54 (g_iload3 dX7_leftWithout_57 (g_iaload 9 rfl dX7_leftWithout_58 ?b58_3 (g_iconst ki_0 dX7_leftWithout_59 (g_iconst ki_0 dX7_leftWithout_60 (g_iconst ki_0 dX7_leftWithout_61 (?c62_3)))))))))))))))))))))
        case s18_3 =>
          have hno : woB s c = false := by
            by_cases q : woB s c = true
            · exact absurd (hwb.mpr q) h33
            · simpa using q
          rw [nI_1]
          refine ih (i + 1) _ (by omega) ?_
          rw [hstep]
          unfold woF
          rw [hno]
          exact hwt'
        case c62_3 =>
          have hyes : woB s c = true := hwb.mp h33
          have hsC : woF s ((L.take i).foldl (woF s) []) c = layL ((L.take i).foldl (woF s) []) (woC s c) := by
            unfold woF; rw [hyes]; rfl
          have hb6 := bitN_le (c.2.2.2.2 &&& (63 ^^^ s))
          rw [ei, Int.toNat_natCast, hrc.2.2.1, hrc.2.2.2.2.2, wo_not _ hcv.2.2.2.2 s hs64, bc_ok _ (wo_lt _ _ hcv.2.2.2.2)]
          have hly := c_lay (d := d) hN hwt' hlen (c := woC s c) ⟨by show bitN _ < 1000; omega, by show c.2.1 < 1000; omega, by show 0 < 1000; omega, by show 0 < 1000; omega, by show 0 < 1000; omega⟩
          refine g_sub (ws' := ((a 0, dolO a im tc) :: (packW E a 1 kd pc nb hs od (nI D.1.length) (nI r) ++ rowW E a 7 pl ov on ot be (nI L.length))) ++ (rowW E a 31 pl3 ov3 on3 ot3 be3 (nI ((L.take i).foldl (woF s) []).length) ++ [])) [0, 1, 2, 3, 4, 5, 6, 7, 8, 9, 10, 11, 12, 13, 14, 15, 16, 17, 18] (by decide) rfl ?_
          refine g_V5v dX7_leftWithout_62 mv_X7_322 13 rfl rfl rfl (Nat.le_of_ble_eq_true rfl) (Nat.le_of_ble_eq_true rfl) (hly.frame) (fun w1 hq => ?_)
          obtain ⟨w3, hw3, rfl⟩ := hq
          refine g_iinc3 ki_1 dX7_leftWithout_65 rfl rfl (g_goto (tgt := 18) dX7_leftWithout_68 (by decide) (?s18_4))
          rw [nI_1, List.append_nil]
          refine ih (i + 1) _ (by omega) ?_
          rw [hstep, hsC]
          exact hw3
        all_goals omega
  refine g_aload0 dX7_leftWithout_0 (g_get fl_X7_10 0 rfl rfl dX7_leftWithout_1 (g_get fl_X7_104 1 rfl rfl dX7_leftWithout_4 (g_astore2 dX7_leftWithout_7 rfl rfl (g_aload0 dX7_leftWithout_8 (g_get fl_X7_30 0 rfl rfl dX7_leftWithout_9 (g_iconst ki_0 dX7_leftWithout_12 (g_put fl_X7_107 fp_3_5 13 rfl rfl rfl (Nat.le_of_ble_eq_true rfl) dX7_leftWithout_13 (g_iconst ki_0 dX7_leftWithout_16 (g_istore3 dX7_leftWithout_17 rfl rfl (?s18_5))))))))))
  exact loop L.length 0 _ (by omega) (Row.mk (pl := pl2) (ov := ov2) (on := on2) (ot := ot2) (be := be2) rfl rfl (Nat.zero_le _) (fun i c h => by simp at h))
theorem Ath.lit (h : Ath E a D r L im tc w) : ∃ kd pc nb hs od pl ov on ot be pl2 ov2 on2 ot2 be2 n2, w = ((a 0, dolO a im tc) :: (packW E a 1 kd pc nb hs od (nI D.1.length) (nI r) ++ rowW E a 7 pl ov on ot be (nI L.length))) ++ rowW E a 31 pl2 ov2 on2 ot2 be2 n2 := by
  obtain ⟨w1, wt, Lt, ⟨wp, wr, hp, hr, rfl⟩, ht, rfl⟩ := h
  obtain ⟨hD, kd, pc, nb, hs, od, rfl, -⟩ := hp
  obtain ⟨hL, pl, ov, on, ot, be, rfl, -⟩ := hr
  obtain ⟨hL2, pl2, ov2, on2, ot2, be2, rfl, h2⟩ := ht
  exact ⟨kd, pc, nb, hs, od, pl, ov, on, ot, be, pl2, ov2, on2, ot2, be2, _, rfl⟩
theorem Ath.all (hN : g_N E) (h : Ath E a D r L im tc w) : g_Ci E mX7_allDogs (d + 2) [.ref (a 0)] w (fun x w' => x = nI (2 ^ D.1.length - 1) ∧ w' = w) := by
  obtain ⟨w1, wt, Lt, h1, h2, rfl⟩ := h
  exact ((c_allDogs hN h1).frame (X := []) (Y := wt)).post (fun z w' hz => by obtain ⟨w3, ⟨q1, rfl⟩, q4⟩ := hz; exact ⟨q1, q4⟩)
def sWithout (D : Dg) (L : List Cr) (v : Int32) : Int32 := if 0 ≤ v.toInt ∧ v.toInt ≤ 2 ^ D.1.length - 1 then nI (woL v.toInt.toNat L).length else -2
theorem two_pow6 {n : Nat} (h : n ≤ 6) : 2 ^ n ≤ 64 := Nat.pow_le_pow_right (by omega) h
set_option maxRecDepth 20000 in
theorem c_without (hN : g_N E) (hw : Ath E a D r L im tc w) (hv : plOK D.1.length L) (hD6 : D.1.length ≤ 6) (v : Int32) : g_Ci E mX7_without (d + 5) [.ref (a 0), .int v] w (fun y w' => y = sWithout D L v ∧ Ath E a D r L im tc w') := by
  have hw' := hw
  obtain ⟨kd, pc, nb, hs, od, pl, ov, on, ot, be, pl2, ov2, on2, ot2, be2, n2, rfl⟩ := hw.lit
  have hp6 := two_pow6 hD6
  have hp0 : 0 < 2 ^ D.1.length := Nat.two_pow_pos _
  have e1 := t_nI (n := 2 ^ D.1.length - 1) (by omega)
  have hcast : ((2 ^ D.1.length : Nat) : Int) = (2 : Int) ^ D.1.length := by norm_cast
  refine g_enterI hN.1 (by decide) [some (.ref (a 0)), some (.int v)] rfl (Nat.le_of_ble_eq_true rfl) (fun A Q hQ => ?_)
  have tcm2 := tc_m2; have tc0 := tc_0
  unfold sWithout at hQ
  have z0 := g_biz (p := ((0 : Int32).toInt ≤ v.toInt ∧ v.toInt ≤ (nI (2 ^ D.1.length - 1)).toInt))
  refine g_iload1 dX7_without_0 (g_iconst ki_0 dX7_without_1 (g_aload0 dX7_without_2 (?c3)))
  refine g_V0i dX7_without_3 mv_X7_189 0 rfl rfl rfl (Nat.le_of_ble_eq_true rfl) (Nat.le_of_ble_eq_true rfl) (hw'.all hN) (fun r1 w1 hq => ?_)
  obtain ⟨rfl, rfl⟩ := hq
  refine r_X7_isWithin hN mv_X7_100 dX7_without_6 (Nat.le_of_ble_eq_true rfl) (Nat.le_of_ble_eq_true rfl) rfl (g_if_ne (tgt := 15) dX7_without_9 (by decide) (fun h9 => g_aload0 dX7_without_15 (g_iload1 dX7_without_16 (?c17_2))) (fun h9 => g_bipush kb_m2 dX7_without_12 (g_iret rfl dX7_without_14 (Nat.le_of_ble_eq_true rfl) (Nat.le_of_ble_eq_true rfl) ?q14_2)))
  case q14_2 => rw [if_neg (by omega)] at hQ; exact hQ _ _ ⟨rfl, hw'⟩
  case c17_2 =>
    rw [if_pos (by omega)] at hQ
    have ev : v = nI v.toInt.toNat := t_of (by omega)
    have hl := c_leftWithout (d := d) hN hw' hv hD6 (s := v.toInt.toNat) (by omega)
    rw [← ev] at hl
    refine g_V1i dX7_without_17 mv_X7_192 0 rfl rfl rfl (Nat.le_of_ble_eq_true rfl) (Nat.le_of_ble_eq_true rfl) (hl) (fun r1 w1 hq => ?_)
    obtain ⟨rfl, hw3⟩ := hq
    refine g_iret rfl dX7_without_20 (Nat.le_of_ble_eq_true rfl) (Nat.le_of_ble_eq_true rfl) ?q20_3
    exact hQ _ _ ⟨rfl, hw3⟩
end S45
