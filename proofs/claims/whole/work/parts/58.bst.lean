/-! atOdds, best -/
section S58
variable {E : GE} {d : Nat} {a : Nat → Nat} {im tc : Int32} {w : va_W} {adK adV ta : Nat → Nat} {e : Nat → Nat} {C : List Int32} {D : Dg} {r : Nat} {L : List Cr} {F : List Nat}
set_option maxRecDepth 20000 in
set_option maxHeartbeats 1000000 in
theorem c_atOdds (hE : g_E E adK adV ta) (hw : Aor E a D r L im tc C e F w) (k : Int32) : g_Ci E mX7_atOdds (d + 12) [.ref (a 0), .int k] w (fun z w' => (¬ (0 ≤ k.toInt ∧ k.toInt ≤ 1) → z = -2) ∧ (k.toInt = 0 → z.toInt = oddsF D C e (D.1.length - 1)) ∧ (k.toInt = 1 → z = nI (srF D.1.length (prB D C e) (fun _ => 0)).1) ∧ ∃ F', Aor E a D r L im tc C e F' w') := by
  have hN := g_E_N hE
  have hw' := hw
  obtain ⟨w1, en, fd, pr, tr, n0, le, hA, hF, rfl⟩ := hw
  have hA' := hA
  obtain ⟨kd, pc, nb, hs, od, pl, ov, on, ot, be, nm, code, ends, stk, hh, rfl, hD, j5, hpk⟩ := hA.lit
  refine g_enterI hN.1 (by decide) [some (.ref (a 0)), some (.int k)] rfl (Nat.le_of_ble_eq_true rfl) (fun A Q hQ => ?_)
  have tcm2 := tc_m2; have tc0 := tc_0; have tc1 := tc_1
  have z0 := g_biz (p := ((0 : Int32).toInt ≤ k.toInt ∧ k.toInt ≤ (1 : Int32).toInt))
  refine g_iload1 dX7_atOdds_0 (g_iconst ki_0 dX7_atOdds_1 (g_iconst ki_1 dX7_atOdds_2 (r_X7_isWithin hN mv_X7_100 dX7_atOdds_3 (Nat.le_of_ble_eq_true rfl) (Nat.le_of_ble_eq_true rfl) rfl (g_if_ne (tgt := 12) dX7_atOdds_6 (by decide) (fun h6 => g_iload1 dX7_atOdds_12 (g_if_ne (tgt := 23) dX7_atOdds_13 (by decide) (fun h13 => g_aload0 dX7_atOdds_23 (?c24)) (fun h13 => g_aload0 dX7_atOdds_16 (?c17)))) (fun h6 => g_bipush kb_m2 dX7_atOdds_9 (g_iret rfl dX7_atOdds_11 (Nat.le_of_ble_eq_true rfl) (Nat.le_of_ble_eq_true rfl) ?q11))))))
  case q11 => exact hQ _ _ ⟨fun _ => rfl, fun q => by omega, fun q => by omega, F, hw'⟩
  case c17 =>
    refine g_V0i dX7_atOdds_17 mv_X7_206 0 rfl rfl rfl (Nat.le_of_ble_eq_true rfl) (Nat.le_of_ble_eq_true rfl) ((c_oddsInHand (d := d + 4) hE hA').frame (X := []) (Y := ordW E a 37 en fd pr tr n0 le)) (fun r1 w1 hq => ?_)
    obtain ⟨w3, ⟨hz, hA3⟩, rfl⟩ := hq
    refine g_goto (tgt := 27) dX7_atOdds_20 (by decide) (g_iret rfl dX7_atOdds_27 (Nat.le_of_ble_eq_true rfl) (Nat.le_of_ble_eq_true rfl) ?q27_2)
    exact hQ _ _ ⟨fun q => by omega, fun q => hz, fun q => by omega, F, _, _, _, _, _, _, _, hA3, hF, rfl⟩
  case c24 =>
    refine g_V0i dX7_atOdds_24 mv_X7_209 0 rfl rfl rfl (Nat.le_of_ble_eq_true rfl) (Nat.le_of_ble_eq_true rfl) (c_findBestOrder (d := d) hE hw') (fun r1 w1 hq => ?_)
    obtain ⟨hz, hA3⟩ := hq
    refine g_iret rfl dX7_atOdds_27 (Nat.le_of_ble_eq_true rfl) (Nat.le_of_ble_eq_true rfl) ?q27_3
    exact hQ _ _ ⟨fun q => by omega, fun q => by omega, fun q => hz, _, hA3⟩
set_option maxRecDepth 20000 in
set_option maxHeartbeats 1000000 in
theorem c_best (hE : g_E E adK adV ta) (hw : Aor E a D r L im tc C e F w) (k : Int32) : g_Ci E mX7_best (d + 12) [.ref (a 0), .int k] w (fun z w' => (¬ (0 ≤ k.toInt ∧ k.toInt < D.1.length) → z = -2) ∧ (0 ≤ k.toInt ∧ k.toInt < D.1.length → ∀ x, (srF D.1.length (prB D C e) (fun _ => 0)).2[k.toInt.toNat]? = some x → z = nI x) ∧ ∃ F', Aor E a D r L im tc C e F' w') := by
  have hN := g_E_N hE
  have hw' := hw
  obtain ⟨w1, en, fd, pr, tr, n0, le, hA, hF, rfl⟩ := hw
  have hA' := hA
  obtain ⟨kd, pc, nb, hs, od, pl, ov, on, ot, be, nm, code, ends, stk, hh, rfl, hD, j5, hpk⟩ := hA.lit
  have hn := hD.1
  have eD := t_nI (n := D.1.length) (by omega)
  refine g_enterI hN.1 (by decide) [some (.ref (a 0)), some (.int k)] rfl (Nat.le_of_ble_eq_true rfl) (fun A Q hQ => ?_)
  have tcm2 := tc_m2; have tc0 := tc_0; have tc1 := tc_1
  have e2 : (nI D.1.length - 1).toInt = (D.1.length : Int) - 1 := by rw [t_sub (by omega) (by omega)]; omega
  have z0 := g_biz (p := ((0 : Int32).toInt ≤ k.toInt ∧ k.toInt ≤ (nI D.1.length - 1).toInt))
  refine g_iload1 dX7_best_0 (g_iconst ki_0 dX7_best_1 (g_aload0 dX7_best_2 (g_get fl_X7_10 0 rfl rfl dX7_best_3 (g_get fl_X7_110 1 rfl rfl dX7_best_6 (g_iconst ki_1 dX7_best_9 (g_isub dX7_best_10 (r_X7_isWithin hN mv_X7_100 dX7_best_11 (Nat.le_of_ble_eq_true rfl) (Nat.le_of_ble_eq_true rfl) rfl (g_if_ne (tgt := 20) dX7_best_14 (by decide) (fun h14 => g_aload0 dX7_best_20 (?c21)) (fun h14 => g_bipush kb_m2 dX7_best_17 (g_iret rfl dX7_best_19 (Nat.le_of_ble_eq_true rfl) (Nat.le_of_ble_eq_true rfl) ?q19))))))))))
  case q19 => exact hQ _ _ ⟨fun _ => rfl, fun q => by omega, F, hw'⟩
  case c21 =>
    refine g_V0i dX7_best_21 mv_X7_209 0 rfl rfl rfl (Nat.le_of_ble_eq_true rfl) (Nat.le_of_ble_eq_true rfl) (c_findBestOrder (d := d) hE hw') (fun r1 w1 hq => ?_)
    obtain ⟨hz, hA3⟩ := hq
    have hA3' := hA3
    obtain ⟨w1, en, fd, pr, tr, n0, le, hA, hF, rfl⟩ := hA3
    obtain ⟨kd, pc, nb, hs, od, pl, ov, on, ot, be, nm, code, ends, stk, hh, rfl, hD, j5, hpk⟩ := hA.lit
    refine g_pop dX7_best_24 rfl (g_aload0 dX7_best_25 (g_get fl_X7_36 0 rfl rfl dX7_best_26 (g_get fl_X7_212 19 rfl rfl dX7_best_29 (g_iload1 dX7_best_32 (g_iaload 21 rfl dX7_best_33 ?b33_2 (g_iret rfl dX7_best_34 (Nat.le_of_ble_eq_true rfl) (Nat.le_of_ble_eq_true rfl) ?q34_2))))))
    case b33_2 => exact ⟨by omega, by show _ < (6 : Int); omega⟩
    case q34_2 => exact hQ _ _ ⟨fun q => by omega, fun q x hx => hF _ _ hx, _, hA3'⟩
end S58
