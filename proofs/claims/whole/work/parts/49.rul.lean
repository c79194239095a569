def absN (x y : Nat) : Nat := if x < y then y - x else x - y
/-- a part of the rule, of two dogs as they are in the hand -/
def rhI (D : Dg) (C : List Int32) (e : Nat → Nat) (part x y : Nat) : Int := rlI C e part (nmF D.1.length D.2.1 x y (nI (absN (plN D x) (plN D y))) (nI (plN D (min x y))))
theorem rlI_0 (C : List Int32) (e : Nat → Nat) (nm : Nat → Int32) {part : Nat} (h : part ≠ 1) : 0 ≤ rlI C e part nm ∧ rlI C e part nm ≤ 99 := by
  unfold rlI; rw [if_neg h]; omega
theorem rlI_1 (C : List Int32) (e : Nat → Nat) (nm : Nat → Int32) (part : Nat) : -99 ≤ rlI C e part nm ∧ rlI C e part nm ≤ 99 := by
  unfold rlI; split <;> omega
def oddsF (D : Dg) (C : List Int32) (e : Nat → Nat) : Nat → Int
  | 0 => 0
  | t + 1 => oddsF D C e t + rhI D C e 0 (D.2.2.2.2.getD t 0) (D.2.2.2.2.getD (t + 1) 0)
theorem oddsF_b (D : Dg) (C : List Int32) (e : Nat → Nat) : ∀ t, 0 ≤ oddsF D C e t ∧ oddsF D C e t ≤ 99 * t
  | 0 => by unfold oddsF; omega
  | t + 1 => by
    have h1 := oddsF_b D C e t
    have h2 := rlI_0 C e (nmF D.1.length D.2.1 (D.2.2.2.2.getD t 0) (D.2.2.2.2.getD (t + 1) 0) (nI (absN (plN D (D.2.2.2.2.getD t 0)) (plN D (D.2.2.2.2.getD (t + 1) 0)))) (nI (plN D (min (D.2.2.2.2.getD t 0) (D.2.2.2.2.getD (t + 1) 0))))) (part := 0) (by omega)
    unfold oddsF rhI
    omega
def sAsks (D : Dg) (C : List Int32) (e : Nat → Nat) (x y k : Int32) : Int :=
  if (0 ≤ x.toInt ∧ x.toInt < D.1.length) ∧ (0 ≤ y.toInt ∧ y.toInt < D.1.length) ∧ ¬ x.toInt = y.toInt ∧ (0 ≤ k.toInt ∧ k.toInt ≤ 2) then rhI D C e k.toInt.toNat x.toInt.toNat y.toInt.toNat else -100000
section S49
variable {E : GE} {d : Nat} {a : Nat → Nat} {D : Dg} {r : Nat} {L : List Cr} {im tc : Int32} {w : va_W} {adK adV ta : Nat → Nat} {C : List Int32} {e : Nat → Nat}
theorem Arl.lit (h : Arl E a D r L im tc C e w) : ∃ kd pc nb hs od pl ov on ot be nm code ends stk hh, w = ((a 0, dolO a im tc) :: (packW E a 1 kd pc nb hs od (nI D.1.length) (nI r) ++ rowW E a 7 pl ov on ot be (nI L.length))) ++ ((a 48, raT E a) :: (a 49, ia E 6 nm) :: txtW E a (54 + 4 * r) code ends stk (nI C.length) hh) ∧ dgOK D ∧ Lst D.2.2.2.2 od ∧ Pck E a 1 D r (packW E a 1 kd pc nb hs od (nI D.1.length) (nI r)) := by
  obtain ⟨w1, nm, wt, hA, hr6, hok, hT, rfl⟩ := h
  obtain ⟨kd, pc, nb, hs, od, pl, ov, on, ot, be, rfl, hD, j1, j2, j3, j4, j5, hL, hpk, hrw⟩ := hA.lit
  obtain ⟨-, code, ends, stk, hh, rfl, -⟩ := hT
  exact ⟨kd, pc, nb, hs, od, pl, ov, on, ot, be, nm, code, ends, stk, hh, rfl, hD, j5, hpk⟩
theorem Arl.dog (hN : g_N E) (h : Arl E a D r L im tc C e w) (v : Int32) : g_Ci E mX7_isDog (d + 2) [.ref (a 0), .int v] w (fun x w' => x = g_bi (0 ≤ v.toInt ∧ v.toInt < D.1.length) ∧ w' = w) := by
  obtain ⟨w1, nm, wt, hA, hr6, hok, hT, rfl⟩ := h
  exact ((c_isDog hN hA v).frame (X := []) (Y := (a 48, raT E a) :: (a 49, ia E 6 nm) :: wt)).post (fun z w' hz => by obtain ⟨w3, ⟨q1, rfl⟩, q4⟩ := hz; exact ⟨q1, q4⟩)
theorem Arl.place (hN : g_N E) (h : Arl E a D r L im tc C e w) {x : Nat} (hx : x < D.1.length) : g_Ci E mX1_placeOf (d + 1) [.ref (a 1), .int (nI x)] w (fun v w' => v = nI (plN D x) ∧ w' = w) := by
  obtain ⟨w1, nm, wt, ⟨wp, wr, hp, hr, rfl⟩, hr6, hok, hT, rfl⟩ := h
  have hm := dg_mem hp.1 hx
  have := (c_placeOf (d := d) hN hp hm).frame (X := [(a 0, dolO a im tc)]) (Y := wr ++ ((a 48, raT E a) :: (a 49, ia E 6 nm) :: wt))
  have he : [(a 0, dolO a im tc)] ++ (wp ++ (wr ++ ((a 48, raT E a) :: (a 49, ia E 6 nm) :: wt))) = ((a 0, dolO a im tc) :: (wp ++ wr)) ++ ((a 48, raT E a) :: (a 49, ia E 6 nm) :: wt) := by simp
  rw [he] at this
  exact this.post (fun z w' hz => by obtain ⟨w3, ⟨q1, rfl⟩, q4⟩ := hz; exact ⟨q1, by rw [q4, he]⟩)
set_option maxRecDepth 20000 in
set_option maxHeartbeats 1000000 in
theorem c_ruledInHand (hE : g_E E adK adV ta) (hw : Arl E a D r L im tc C e w) {part x y : Nat} (hp3 : part < 3) (hx : x < D.1.length) (hy : y < D.1.length) : g_Ci E mX7_ruledInHand (d + 6) [.ref (a 0), .int (nI part), .int (nI x), .int (nI y)] w (fun z w' => z.toInt = rhI D C e part x y ∧ Arl E a D r L im tc C e w') := by
  have hN := g_E_N hE
  have hw' := hw
  obtain ⟨kd, pc, nb, hs, od, pl, ov, on, ot, be, nm, code, ends, stk, hh, rfl, hD, j5, hpk⟩ := hw.lit
  have hn := hD.1
  have hpl : ∀ z, z < D.1.length → plN D z < 1000 := fun z hz => by
    have := List.idxOf_lt_length_of_mem (dg_mem hD hz)
    have := hD.2.2.2.2.1
    show D.2.2.2.2.idxOf z < 1000
    omega
  refine g_enterI hN.1 (by decide) [some (.ref (a 0)), some (.int (nI part)), some (.int (nI x)), some (.int (nI y)), none] rfl (Nat.le_of_ble_eq_true rfl) (fun A Q hQ => ?_)
  skip
  refine g_aload0 dX7_ruledInHand_0 (g_get fl_X7_10 0 rfl rfl dX7_ruledInHand_1 (g_iload2 dX7_ruledInHand_4 (?c5)))
  refine g_V1i dX7_ruledInHand_5 mv_X7_135 1 rfl rfl rfl (Nat.le_of_ble_eq_true rfl) (Nat.le_of_ble_eq_true rfl) (hw'.place hN hx) (fun r1 w1 hq => ?_)
  obtain ⟨rfl, rfl⟩ := hq
  refine g_aload0 dX7_ruledInHand_8 (g_get fl_X7_10 0 rfl rfl dX7_ruledInHand_9 (g_iload3 dX7_ruledInHand_12 (?c13_2)))
  refine g_V1i dX7_ruledInHand_13 mv_X7_135 1 rfl rfl rfl (Nat.le_of_ble_eq_true rfl) (Nat.le_of_ble_eq_true rfl) (hw'.place hN hy) (fun r1 w1 hq => ?_)
  obtain ⟨rfl, rfl⟩ := hq
  refine g_isub dX7_ruledInHand_16 (g_mabs wm_X7_306 dX7_ruledInHand_17 (Nat.le_of_ble_eq_true rfl) (Nat.le_of_ble_eq_true rfl) rfl (g_istore4 dX7_ruledInHand_20 rfl rfl (g_aload0 dX7_ruledInHand_22 (g_iload1 dX7_ruledInHand_23 (g_iload2 dX7_ruledInHand_24 (g_iload3 dX7_ruledInHand_25 (g_iload4 dX7_ruledInHand_26 (g_aload0 dX7_ruledInHand_28 (g_get fl_X7_10 0 rfl rfl dX7_ruledInHand_29 (g_iload2 dX7_ruledInHand_32 (g_iload3 dX7_ruledInHand_33 (g_mmin wm_X7_184 dX7_ruledInHand_34 (Nat.le_of_ble_eq_true rfl) (Nat.le_of_ble_eq_true rfl) rfl (?c37_3)))))))))))))
  rw [nI_abs (hpl x hx) (hpl y hy), nI_min (by omega) (by omega)]
  refine g_V1i dX7_ruledInHand_37 mv_X7_135 1 rfl rfl rfl (Nat.le_of_ble_eq_true rfl) (Nat.le_of_ble_eq_true rfl) (hw'.place hN (x := min x y) (by omega)) (fun r1 w1 hq => ?_)
  obtain ⟨rfl, rfl⟩ := hq
  refine g_V5i dX7_ruledInHand_40 mv_X7_241 0 rfl rfl rfl (Nat.le_of_ble_eq_true rfl) (Nat.le_of_ble_eq_true rfl) (c_ruled hE hw' hp3 hx hy _ _) (fun r1 w1 hq => ?_)
  obtain ⟨hz, hw3⟩ := hq
  refine g_iret rfl dX7_ruledInHand_43 (Nat.le_of_ble_eq_true rfl) (Nat.le_of_ble_eq_true rfl) ?q43_4
  exact hQ _ _ ⟨hz, hw3⟩
set_option maxRecDepth 20000 in
set_option maxHeartbeats 1000000 in
theorem c_oddsInHand (hE : g_E E adK adV ta) (hw : Arl E a D r L im tc C e w) : g_Ci E mX7_oddsInHand (d + 7) [.ref (a 0)] w (fun z w' => z.toInt = oddsF D C e (D.1.length - 1) ∧ Arl E a D r L im tc C e w') := by
  have hN := g_E_N hE
  have hw' := hw
  obtain ⟨kd, pc, nb, hs, od, pl, ov, on, ot, be, nm, code, ends, stk, hh, rfl, hD, j5, hpk⟩ := hw.lit
  have hn := hD.1
  refine g_enterI hN.1 (by decide) [some (.ref (a 0)), none, none] rfl (Nat.le_of_ble_eq_true rfl) (fun A Q hQ => ?_)
  have tc0 := tc_0; have tc1 := tc_1
  have e1 := t_nI (n := D.1.length) (by omega)
  have loop : ∀ t i (v : Int32) w, i + t = D.1.length - 1 → v.toInt = oddsF D C e i → Arl E a D r L im tc C e w → G E mX7_oddsInHand (d + 7) 0 0 A Q 0 0 4 [some (.ref (a 0)), some (.int v), some (.int (nI i))] [] w := by
    intro t
    induction t with
    | zero =>
      intro i v w hi hv hw
      have hw' := hw
      obtain ⟨kd, pc, nb, hs, od, pl, ov, on, ot, be, nm, code, ends, stk, hh, rfl, hD, j5, hpk⟩ := hw.lit
      have ei : (nI i + 1).toInt = (i : Int) + 1 := by rw [nI_1, t_nI (by omega)]; omega
      refine g_iload2 dX7_oddsInHand_4 (g_iconst ki_1 dX7_oddsInHand_5 (g_iadd dX7_oddsInHand_6 (g_aload0 dX7_oddsInHand_7 (g_get fl_X7_10 0 rfl rfl dX7_oddsInHand_8 (g_get fl_X7_110 1 rfl rfl dX7_oddsInHand_11 (g_icmp_ge (tgt := 51) dX7_oddsInHand_14 (by decide) (fun h14 => g_iload1 dX7_oddsInHand_51 (g_iret rfl dX7_oddsInHand_52 (Nat.le_of_ble_eq_true rfl) (Nat.le_of_ble_eq_true rfl) ?q52)) (fun h14 => ?s17)))))))
      case s17 => omega
      case q52 => exact hQ _ _ ⟨by rw [hv, show i = D.1.length - 1 by omega], hw'⟩
    | succ t ih =>
      intro i v w hi hv hw
      have hw' := hw
      obtain ⟨kd, pc, nb, hs, od, pl, ov, on, ot, be, nm, code, ends, stk, hh, rfl, hD, j5, hpk⟩ := hw.lit
      obtain ⟨-, l1, l2, l3, l4, b1, b2, b3, b4, b5, hnd⟩ := id hD
      have ei0 := t_nI (n := i) (by omega)
      have ei : (nI i + 1).toInt = ((i + 1 : Nat) : Int) := by rw [nI_1, t_nI (by omega)]
      have g1 := getD_at (l := D.2.2.2.2) (i := i) (by omega)
      have g2 := getD_at (l := D.2.2.2.2) (i := i + 1) (by omega)
      have hob := oddsF_b D C e i
      refine g_iload2 dX7_oddsInHand_4 (g_iconst ki_1 dX7_oddsInHand_5 (g_iadd dX7_oddsInHand_6 (g_aload0 dX7_oddsInHand_7 (g_get fl_X7_10 0 rfl rfl dX7_oddsInHand_8 (g_get fl_X7_110 1 rfl rfl dX7_oddsInHand_11 (g_icmp_ge (tgt := 51) dX7_oddsInHand_14 (by decide) (fun h14 => ?s51_2) (fun h14 => g_iload1 dX7_oddsInHand_17 (g_aload0 dX7_oddsInHand_18 (g_iconst ki_0 dX7_oddsInHand_19 (g_aload0 dX7_oddsInHand_20 (g_get fl_X7_10 0 rfl rfl dX7_oddsInHand_21 (g_get fl_X7_152 1 rfl rfl dX7_oddsInHand_24 (g_iload2 dX7_oddsInHand_27 (g_iaload 6 rfl dX7_oddsInHand_28 ?b28_2 (g_aload0 dX7_oddsInHand_29 (g_get fl_X7_10 0 rfl rfl dX7_oddsInHand_30 (g_get fl_X7_152 1 rfl rfl dX7_oddsInHand_33 (g_iload2 dX7_oddsInHand_36 (g_iconst ki_1 dX7_oddsInHand_37 (g_iadd dX7_oddsInHand_38 (g_iaload 6 rfl dX7_oddsInHand_39 ?b39_2 (?c40_2))))))))))))))))))))))
      case s51_2 => omega
      case b28_2 => omega
      case b39_2 => omega
      case c40_2 =>
        rw [ei0, ei, Int.toNat_natCast, Int.toNat_natCast, j5.at g1, j5.at g2]
        have hrh := c_ruledInHand (d := d) hE hw' (part := 0) (by omega) (b5 _ (List.mem_of_getElem? g1)) (b5 _ (List.mem_of_getElem? g2))
        refine g_V3i dX7_oddsInHand_40 mv_X7_144 0 rfl rfl rfl (Nat.le_of_ble_eq_true rfl) (Nat.le_of_ble_eq_true rfl) (hrh) (fun r1 w1 hq => ?_)
        obtain ⟨hz, hw3⟩ := hq
        have hb := rlI_0 C e (nmF D.1.length D.2.1 (D.2.2.2.2.getD i 0) (D.2.2.2.2.getD (i + 1) 0) (nI (absN (plN D (D.2.2.2.2.getD i 0)) (plN D (D.2.2.2.2.getD (i + 1) 0)))) (nI (plN D (min (D.2.2.2.2.getD i 0) (D.2.2.2.2.getD (i + 1) 0))))) (part := 0) (by omega)
        have hz2 : r1.toInt = rlI C e 0 (nmF D.1.length D.2.1 (D.2.2.2.2.getD i 0) (D.2.2.2.2.getD (i + 1) 0) (nI (absN (plN D (D.2.2.2.2.getD i 0)) (plN D (D.2.2.2.2.getD (i + 1) 0)))) (nI (plN D (min (D.2.2.2.2.getD i 0) (D.2.2.2.2.getD (i + 1) 0))))) := hz
        refine g_iadd dX7_oddsInHand_43 (g_istore1 dX7_oddsInHand_44 rfl rfl (g_iinc2 ki_1 dX7_oddsInHand_45 rfl rfl (g_goto (tgt := 4) dX7_oddsInHand_48 (by decide) (?s4_3))))
        rw [nI_1]
        refine ih (i + 1) _ _ (by omega) ?_ hw3
        rw [t_add (by omega) (by omega), hv, hz]
        rfl
  refine g_iconst ki_0 dX7_oddsInHand_0 (g_istore1 dX7_oddsInHand_1 rfl rfl (g_iconst ki_0 dX7_oddsInHand_2 (g_istore2 dX7_oddsInHand_3 rfl rfl (?s4_4))))
  exact loop (D.1.length - 1) 0 0 _ (by omega) rfl hw'
set_option maxRecDepth 20000 in
set_option maxHeartbeats 1000000 in
theorem c_asks (hE : g_E E adK adV ta) (hw : Arl E a D r L im tc C e w) (x y k : Int32) : g_Ci E mX7_asks (d + 7) [.ref (a 0), .int x, .int y, .int k] w (fun z w' => z.toInt = sAsks D C e x y k ∧ Arl E a D r L im tc C e w') := by
  have hN := g_E_N hE
  have hw' := hw
  obtain ⟨kd, pc, nb, hs, od, pl, ov, on, ot, be, nm, code, ends, stk, hh, rfl, hD, j5, hpk⟩ := hw.lit
  refine g_enterI hN.1 (by decide) [some (.ref (a 0)), some (.int x), some (.int y), some (.int k)] rfl (Nat.le_of_ble_eq_true rfl) (fun A Q hQ => ?_)
  have tcm100000 := tc_m100000; have tc0 := tc_0; have tc2 := tc_2
  have z0 := g_biz (p := (0 ≤ x.toInt ∧ x.toInt < D.1.length))
  have z1 := g_biz (p := (0 ≤ y.toInt ∧ y.toInt < D.1.length))
  have z2 := g_biz (p := ((0 : Int32).toInt ≤ k.toInt ∧ k.toInt ≤ (2 : Int32).toInt))
  unfold sAsks at hQ
  refine g_aload0 dX7_asks_0 (g_iload1 dX7_asks_1 (?c2))
  refine g_V1i dX7_asks_2 mv_X7_115 0 rfl rfl rfl (Nat.le_of_ble_eq_true rfl) (Nat.le_of_ble_eq_true rfl) (hw'.dog hN x) (fun r1 w1 hq => ?_)
  obtain ⟨rfl, rfl⟩ := hq
  refine g_if_eq (tgt := 30) dX7_asks_5 (by decide) (fun h5 => g_ldc kc_X7_143 dX7_asks_30 (g_iret rfl dX7_asks_32 (Nat.le_of_ble_eq_true rfl) (Nat.le_of_ble_eq_true rfl) ?q32_2)) (fun h5 => g_aload0 dX7_asks_8 (g_iload2 dX7_asks_9 (?c10_2)))
  case q32_2 => rw [if_neg (by omega)] at hQ; exact hQ _ _ ⟨tcm100000, hw'⟩
  case c10_2 =>
    refine g_V1i dX7_asks_10 mv_X7_115 0 rfl rfl rfl (Nat.le_of_ble_eq_true rfl) (Nat.le_of_ble_eq_true rfl) (hw'.dog hN y) (fun r1 w1 hq => ?_)
    obtain ⟨rfl, rfl⟩ := hq
    refine g_if_eq (tgt := 30) dX7_asks_13 (by decide) (fun h13 => g_ldc kc_X7_143 dX7_asks_30 (g_iret rfl dX7_asks_32 (Nat.le_of_ble_eq_true rfl) (Nat.le_of_ble_eq_true rfl) ?q32_3)) (fun h13 => g_iload1 dX7_asks_16 (g_iload2 dX7_asks_17 (g_icmp_eq (tgt := 30) dX7_asks_18 (by decide) (fun h18 => g_ldc kc_X7_143 dX7_asks_30 (g_iret rfl dX7_asks_32 (Nat.le_of_ble_eq_true rfl) (Nat.le_of_ble_eq_true rfl) ?q32_3')) (fun h18 => g_iload3 dX7_asks_21 (g_iconst ki_0 dX7_asks_22 (g_iconst ki_2 dX7_asks_23 (r_X7_isWithin hN mv_X7_100 dX7_asks_24 (Nat.le_of_ble_eq_true rfl) (Nat.le_of_ble_eq_true rfl) rfl (g_if_ne (tgt := 33) dX7_asks_27 (by decide) (fun h27 => g_aload0 dX7_asks_33 (g_iload3 dX7_asks_34 (g_iload1 dX7_asks_35 (g_iload2 dX7_asks_36 (?c37_3))))) (fun h27 => g_ldc kc_X7_143 dX7_asks_30 (g_iret rfl dX7_asks_32 (Nat.le_of_ble_eq_true rfl) (Nat.le_of_ble_eq_true rfl) ?q32_3''))))))))))
    case q32_3 => rw [if_neg (by omega)] at hQ; exact hQ _ _ ⟨tcm100000, hw'⟩
    case q32_3' => rw [if_neg (by omega)] at hQ; exact hQ _ _ ⟨tcm100000, hw'⟩
    case q32_3'' => rw [if_neg (by omega)] at hQ; exact hQ _ _ ⟨tcm100000, hw'⟩
    case c37_3 =>
      rw [if_pos (by omega)] at hQ
      have hrh := c_ruledInHand (d := d) hE hw' (part := k.toInt.toNat) (x := x.toInt.toNat) (y := y.toInt.toNat) (by omega) (by omega) (by omega)
      rw [← t_of (a := k) (by omega), ← t_of (a := x) (by omega), ← t_of (a := y) (by omega)] at hrh
      refine g_V3i dX7_asks_37 mv_X7_144 0 rfl rfl rfl (Nat.le_of_ble_eq_true rfl) (Nat.le_of_ble_eq_true rfl) (hrh) (fun r1 w1 hq => ?_)
      obtain ⟨hz, hw3⟩ := hq
      refine g_iret rfl dX7_asks_40 (Nat.le_of_ble_eq_true rfl) (Nat.le_of_ble_eq_true rfl) ?q40_4
      exact hQ _ _ ⟨hz, hw3⟩
end S49
