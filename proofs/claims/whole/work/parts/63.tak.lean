def tkF (D : Dg) (C : List Int32) (e : Nat → Nat) : Nat → Nat × Int
  | 0 => (0, 0)
  | t + 1 => if (tkF D C e t).2 < wsF D C e (nI (t + 1)) D.1.length then (t + 1, wsF D C e (nI (t + 1)) D.1.length) else tkF D C e t
def sTake (D : Dg) (C : List Int32) (e : Nat → Nat) (k : Int32) (z : Int32) : Prop :=
  (¬ (0 ≤ k.toInt ∧ k.toInt ≤ 1) → z.toInt = -100000) ∧ (k.toInt = 0 → z = nI (tkF D C e (2 ^ D.1.length - 1)).1) ∧ (k.toInt = 1 → z.toInt = (tkF D C e (2 ^ D.1.length - 1)).2)
section S63
variable {E : GE} {d : Nat} {a : Nat → Nat} {im tc : Int32} {w : va_W} {adK adV ta : Nat → Nat} {e : Nat → Nat} {C : List Int32} {D : Dg} {r : Nat} {L : List Cr} {wo : Nat → Int32}
theorem Awt.all (hN : g_N E) (h : Awt E a D r L im tc C e wo w) : g_Ci E mX7_allDogs (d + 2) [.ref (a 0)] w (fun x w' => x = nI (2 ^ D.1.length - 1) ∧ w' = w) := by
  obtain ⟨w1, ⟨w2, nm, wt, hA, hr6, hok, hT, rfl⟩, rfl⟩ := h
  have := (c_allDogs (d := d) hN hA).frame (X := []) (Y := ((a 48, raT E a) :: (a 49, ia E 6 nm) :: wt) ++ [(a 53, ia E 36 wo)])
  have he : [] ++ (w2 ++ (((a 48, raT E a) :: (a 49, ia E 6 nm) :: wt) ++ [(a 53, ia E 36 wo)])) = (w2 ++ ((a 48, raT E a) :: (a 49, ia E 6 nm) :: wt)) ++ [(a 53, ia E 36 wo)] := by simp
  rw [he] at this
  exact this.post (fun z w' hz => by obtain ⟨w3, ⟨q1, rfl⟩, q4⟩ := hz; exact ⟨q1, by rw [q4, he]⟩)
theorem Awt.lit (h : Awt E a D r L im tc C e wo w) : ∃ kd pc nb hs od pl ov on ot be nm code ends stk hh, w = (((a 0, dolO a im tc) :: (packW E a 1 kd pc nb hs od (nI D.1.length) (nI r) ++ rowW E a 7 pl ov on ot be (nI L.length))) ++ ((a 48, raT E a) :: (a 49, ia E 6 nm) :: txtW E a (54 + 4 * r) code ends stk (nI C.length) hh)) ++ [(a 53, ia E 36 wo)] ∧ dgOK D := by
  obtain ⟨w1, hA, rfl⟩ := h
  obtain ⟨kd, pc, nb, hs, od, pl, ov, on, ot, be, nm, code, ends, stk, hh, rfl, hD, j5, hpk⟩ := hA.lit
  exact ⟨kd, pc, nb, hs, od, pl, ov, on, ot, be, nm, code, ends, stk, hh, rfl, hD⟩
set_option maxRecDepth 20000 in
set_option maxHeartbeats 4000000 in
theorem c_take (hE : g_E E adK adV ta) (hw : Awt E a D r L im tc C e wo w) (k : Int32) : g_Ci E mX7_take (d + 8) [.ref (a 0), .int k] w (fun z w' => sTake D C e k z ∧ ∃ wo', Awt E a D r L im tc C e wo' w') := by
  have hN := g_E_N hE
  have hw' := hw
  obtain ⟨kd, pc, nb, hs, od, pl, ov, on, ot, be, nm, code, ends, stk, hh, rfl, hD⟩ := hw.lit
  have hn := hD.1
  have h64 : 2 ^ D.1.length ≤ 64 := by
    have := Nat.pow_le_pow_right (n := 2) (by omega) hn
    omega
  have hpos : 0 < 2 ^ D.1.length := Nat.two_pow_pos _
  have eA := t_nI (n := 2 ^ D.1.length - 1) (by omega)
  refine g_enterI hN.1 (by decide) [some (.ref (a 0)), some (.int k), none, none, none, none] rfl (Nat.le_of_ble_eq_true rfl) (fun A Q hQ => ?_)
  have tcm100000 := tc_m100000; have tc0 := tc_0; have tc1 := tc_1
  have z0 := g_biz (p := ((0 : Int32).toInt ≤ k.toInt ∧ k.toInt ≤ (1 : Int32).toInt))
  refine g_iload1 dX7_take_0 (g_iconst ki_0 dX7_take_1 (g_iconst ki_1 dX7_take_2 (r_X7_isWithin hN mv_X7_100 dX7_take_3 (Nat.le_of_ble_eq_true rfl) (Nat.le_of_ble_eq_true rfl) rfl (g_if_ne (tgt := 12) dX7_take_6 (by decide) (fun h6 => g_aload0 dX7_take_12 (?c13)) (fun h6 => g_ldc kc_X7_143 dX7_take_9 (g_iret rfl dX7_take_11 (Nat.le_of_ble_eq_true rfl) (Nat.le_of_ble_eq_true rfl) ?q11))))))
  case q11 => exact hQ _ _ ⟨⟨fun _ => tcm100000, fun q => by omega, fun q => by omega⟩, _, hw'⟩
  case c13 =>
    refine g_V0v dX7_take_13 mv_X7_252 0 rfl rfl rfl (Nat.le_of_ble_eq_true rfl) (Nat.le_of_ble_eq_true rfl) (c_findWorths (d := d) hE hw') (fun w1 hq => ?_)
    obtain ⟨wo', hdn, hw3⟩ := hq
    have hw3' := hw3
    obtain ⟨kd, pc, nb, hs, od, pl, ov, on, ot, be, nm, code, ends, stk, hh, rfl, -⟩ := hw3.lit
    have loop : ∀ t i (v : Int32) l5, i + t = 2 ^ D.1.length - 1 → v.toInt = (tkF D C e i).2 → G E mX7_take (d + 8) 0 0 A Q 0 0 23 [some (.ref (a 0)), some (.int k), some (.int (nI (tkF D C e i).1)), some (.int v), some (.int (nI (i + 1))), l5] [] ((((a 0, dolO a im tc) :: (packW E a 1 kd pc nb hs od (nI D.1.length) (nI r) ++ rowW E a 7 pl ov on ot be (nI L.length))) ++ ((a 48, raT E a) :: (a 49, ia E 6 nm) :: txtW E a (54 + 4 * r) code ends stk (nI C.length) hh)) ++ [(a 53, ia E 36 wo')]) := by
      intro t
      induction t with
      | zero =>
        intro i v l5 hi hv
        have ei := t_nI (n := i + 1) (by omega)
        have he : i = 2 ^ D.1.length - 1 := by omega
        refine g_iload4 dX7_take_23 (g_aload0 dX7_take_25 (?c26_2))
        refine g_V0i dX7_take_26 mv_X7_189 0 rfl rfl rfl (Nat.le_of_ble_eq_true rfl) (Nat.le_of_ble_eq_true rfl) (hw3'.all (d := d + 5) hN) (fun r1 w1 hq => ?_)
        obtain ⟨rfl, rfl⟩ := hq
        refine g_icmp_gt (tgt := 58) dX7_take_29 (by decide) (fun h29 => g_iload1 dX7_take_58 (g_if_ne (tgt := 66) dX7_take_59 (by decide) (fun h59 => g_iload3 dX7_take_66 (g_iret rfl dX7_take_67 (Nat.le_of_ble_eq_true rfl) (Nat.le_of_ble_eq_true rfl) ?q67_3)) (fun h59 => g_iload2 dX7_take_62 (g_goto (tgt := 67) dX7_take_63 (by decide) (g_iret rfl dX7_take_67 (Nat.le_of_ble_eq_true rfl) (Nat.le_of_ble_eq_true rfl) ?q67_3'))))) (fun h29 => ?s32_3)
        case s32_3 => omega
        case q67_3 => exact hQ _ _ ⟨⟨fun q => by omega, fun q => by omega, fun q => by rw [hv, he]⟩, _, hw3'⟩
        case q67_3' => exact hQ _ _ ⟨⟨fun q => by omega, fun q => by rw [he], fun q => by omega⟩, _, hw3'⟩
      | succ t ih =>
        intro i v l5 hi hv
        have ei := t_nI (n := i + 1) (by omega)
        have hnext := fun v l5 => ih (i + 1) v l5 (by omega)
        rw [tkF] at hnext
        refine g_iload4 dX7_take_23 (g_aload0 dX7_take_25 (?c26_4))
        refine g_V0i dX7_take_26 mv_X7_189 0 rfl rfl rfl (Nat.le_of_ble_eq_true rfl) (Nat.le_of_ble_eq_true rfl) (hw3'.all (d := d + 5) hN) (fun r1 w1 hq => ?_)
        obtain ⟨rfl, rfl⟩ := hq
        refine g_icmp_gt (tgt := 58) dX7_take_29 (by decide) (fun h29 => ?s58_5) (fun h29 => g_aload0 dX7_take_32 (g_iload4 dX7_take_33 (?c35_5)))
        case s58_5 => omega
        case c35_5 =>
          refine g_V1i dX7_take_35 mv_X7_255 0 rfl rfl rfl (Nat.le_of_ble_eq_true rfl) (Nat.le_of_ble_eq_true rfl) (c_worthOf (d := d + 5) hN hw3' hdn (nI (i + 1))) (fun r1 w1 hq => ?_)
          obtain ⟨hz, rfl⟩ := hq
          refine g_istore5 dX7_take_38 rfl rfl (g_iload5 dX7_take_40 (g_iload3 dX7_take_42 (g_icmp_le (tgt := 52) dX7_take_43 (by decide) (fun h43 => g_iinc4 ki_1 dX7_take_52 rfl rfl (g_goto (tgt := 23) dX7_take_55 (by decide) (?s23_6))) (fun h43 => g_iload5 dX7_take_46 (g_istore3 dX7_take_48 rfl rfl (g_iload4 dX7_take_49 (g_istore2 dX7_take_51 rfl rfl (g_iinc4 ki_1 dX7_take_52 rfl rfl (g_goto (tgt := 23) dX7_take_55 (by decide) (?s23_6'))))))))))
          case s23_6 =>
            rw [nI_1]
            rw [if_neg (by omega)] at hnext
            exact hnext _ _ hv
          case s23_6' =>
            rw [nI_1]
            rw [if_pos (by omega)] at hnext
            exact hnext _ _ hz
    refine g_iconst ki_0 dX7_take_16 (g_istore2 dX7_take_17 rfl rfl (g_iconst ki_0 dX7_take_18 (g_istore3 dX7_take_19 rfl rfl (g_iconst ki_1 dX7_take_20 (g_istore4 dX7_take_21 rfl rfl (?s23_7))))))
    exact loop (2 ^ D.1.length - 1) 0 0 _ (by omega) rfl
end S63
