/-! at, force, cross, undo, taken -/
def sAt (D : Dg) (v : Int32) : Int32 := if 0 ≤ v.toInt ∧ v.toInt < D.1.length then nI (D.2.2.2.2.getD v.toInt.toNat 0) else -2
def sForce (r X : Nat) (t : Int32) : Int32 × Nat := if 0 ≤ t.toInt ∧ t.toInt < X then (nI r, t.toInt.toNat) else (-2, r)
def crOf (O : List Nat) (p o : Nat) : Cr := (p, o, O.getD p 0, O.getD (p + 1) 0, bset (O.take p))
/-- a crossing that comes: what is answered, the dogs, the plait -/
def sCross (D : Dg) (L : List Cr) (p o : Int32) : Int32 × Dg × List Cr :=
  if ¬ ((0 ≤ p.toInt ∧ p.toInt + 1 < D.1.length) ∧ (0 ≤ o.toInt ∧ o.toInt ≤ 1)) then (-2, D, L)
  else if 40 ≤ L.length then (-4, D, L)
  else (nI (L.length + 1), dgO D (swapL D.2.2.2.2 p.toInt.toNat), L ++ [crOf D.2.2.2.2 p.toInt.toNat o.toInt.toNat])
def sUndo (D : Dg) (L : List Cr) : Int32 × Dg × List Cr := match L.getLast? with
  | none => (-3, D, L)
  | some c => (nI (L.length - 1), dgO D (swapL D.2.2.2.2 c.1), L.dropLast)
def undF : Nat → Int32 → Int32 → Bool
  | 0, _, _ => false
  | t + 1, x, k => if 0 ≤ x.toInt ∧ x.toInt ≤ 5 then (if x.toInt = k.toInt then true else undF t (kaF x.toInt.toNat) k) else false
def undB (kd k : Nat) : Bool := kd == k || (k == 0) || (k == 1 && (kd == 3 || kd == 5)) || (k == 2 && kd == 4)
theorem und_ok : ∀ kd, kd ≤ 5 → ∀ k, k ≤ 5 → undF 6 (nI kd) (nI k) = undB kd k := by decide +kernel
def sTaken (D : Dg) (x k : Int32) : Int32 :=
  if ¬ (0 ≤ k.toInt ∧ k.toInt ≤ 5) then -2
  else if ¬ (0 ≤ x.toInt ∧ x.toInt < D.1.length) then -11
  else if undB (D.1.getD x.toInt.toNat 0) k.toInt.toNat = true then nI (D.2.2.1.getD x.toInt.toNat 0) else -13
section S42
variable {E : GE} {d : Nat} {a : Nat → Nat} {D : Dg} {r : Nat} {L : List Cr} {im tc : Int32} {w : va_W} {adK adV ta : Nat → Nat}
set_option maxRecDepth 20000 in
theorem c_at (hN : g_N E) (hw : Apk E a D r L im tc w) (v : Int32) : g_Ci E mX7_at (d + 2) [.ref (a 0), .int v] w (fun y w' => y = sAt D v ∧ w' = w) := by
  obtain ⟨kd, pc, nb, hs, od, pl, ov, on, ot, be, rfl, hD, j1, j2, j3, j4, j5, hL, hpk, hrw⟩ := hw.lit
  obtain ⟨hn, l1, l2, l3, l4, b1, b2, b3, b4, b5, hnd⟩ := id hD
  refine g_enterI hN.1 (by decide) [some (.ref (a 0)), some (.int v)] rfl (Nat.le_of_ble_eq_true rfl) (fun A Q hQ => ?_)
  have tcm2 := tc_m2; have tc0 := tc_0; have tc1 := tc_1
  have e1 := t_nI (n := D.1.length) (by omega)
  have e2 : (nI D.1.length - 1).toInt = (D.1.length : Int) - 1 := by rw [t_sub (by omega) (by omega)]; omega
  have z0 := g_biz (p := ((0 : Int32).toInt ≤ v.toInt ∧ v.toInt ≤ (nI D.1.length - 1).toInt))
  unfold sAt at hQ
  refine g_iload1 dX7_at_0 (g_iconst ki_0 dX7_at_1 (g_aload0 dX7_at_2 (g_get fl_X7_10 0 rfl rfl dX7_at_3 (g_get fl_X7_110 1 rfl rfl dX7_at_6 (g_iconst ki_1 dX7_at_9 (g_isub dX7_at_10 (r_X7_isWithin hN mv_X7_100 dX7_at_11 (Nat.le_of_ble_eq_true rfl) (Nat.le_of_ble_eq_true rfl) rfl (g_if_eq (tgt := 29) dX7_at_14 (by decide) (fun h14 => g_bipush kb_m2 dX7_at_29 (g_iret rfl dX7_at_31 (Nat.le_of_ble_eq_true rfl) (Nat.le_of_ble_eq_true rfl) ?q31)) (fun h14 => g_aload0 dX7_at_17 (g_get fl_X7_10 0 rfl rfl dX7_at_18 (g_get fl_X7_152 1 rfl rfl dX7_at_21 (g_iload1 dX7_at_24 (g_iaload 6 rfl dX7_at_25 ?b25 (g_goto (tgt := 31) dX7_at_26 (by decide) (g_iret rfl dX7_at_31 (Nat.le_of_ble_eq_true rfl) (Nat.le_of_ble_eq_true rfl) ?q31')))))))))))))))
  case q31 => rw [if_neg (by omega)] at hQ; exact hQ _ _ ⟨rfl, rfl⟩
  case b25 => omega
  case q31' =>
    rw [if_pos (by omega)] at hQ
    exact hQ _ _ ⟨j5.at (getD_at (by omega)), rfl⟩
set_option maxRecDepth 20000 in
theorem c_force (hN : g_N E) {X : Nat} (hX : X ≤ 6) (hw : Apk E a D r L im (nI X) w) (v : Int32) : g_Ci E mX7_force (d + 2) [.ref (a 0), .int v] w (fun y w' => y = (sForce r X v).1 ∧ Apk E a D (sForce r X v).2 L im (nI X) w') := by
  have hw' := hw
  obtain ⟨kd, pc, nb, hs, od, pl, ov, on, ot, be, rfl, hD, j1, j2, j3, j4, j5, hL, hpk, hrw⟩ := hw.lit
  refine g_enterI hN.1 (by decide) [some (.ref (a 0)), some (.int v), none] rfl (Nat.le_of_ble_eq_true rfl) (fun A Q hQ => ?_)
  have tcm2 := tc_m2; have tc0 := tc_0; have tc1 := tc_1
  have e1 := t_nI (n := X) (by omega)
  have e2 : (nI X - 1).toInt = (X : Int) - 1 := by rw [t_sub (by omega) (by omega)]; omega
  have z0 := g_biz (p := ((0 : Int32).toInt ≤ v.toInt ∧ v.toInt ≤ (nI X - 1).toInt))
  unfold sForce at hQ
  refine g_iload1 dX7_force_0 (g_iconst ki_0 dX7_force_1 (g_aload0 dX7_force_2 (g_get fl_X7_53 0 rfl rfl dX7_force_3 (g_iconst ki_1 dX7_force_6 (g_isub dX7_force_7 (r_X7_isWithin hN mv_X7_100 dX7_force_8 (Nat.le_of_ble_eq_true rfl) (Nat.le_of_ble_eq_true rfl) rfl (g_if_ne (tgt := 17) dX7_force_11 (by decide) (fun h11 => g_aload0 dX7_force_17 (g_get fl_X7_10 0 rfl rfl dX7_force_18 (g_get fl_X7_149 1 rfl rfl dX7_force_21 (g_istore2 dX7_force_24 rfl rfl (g_aload0 dX7_force_25 (g_get fl_X7_10 0 rfl rfl dX7_force_26 (g_iload1 dX7_force_29 (g_put fl_X7_149 fp_1_7 1 rfl rfl rfl (Nat.le_of_ble_eq_true rfl) dX7_force_30 (g_iload2 dX7_force_33 (g_iret rfl dX7_force_34 (Nat.le_of_ble_eq_true rfl) (Nat.le_of_ble_eq_true rfl) ?q34)))))))))) (fun h11 => g_bipush kb_m2 dX7_force_14 (g_iret rfl dX7_force_16 (Nat.le_of_ble_eq_true rfl) (Nat.le_of_ble_eq_true rfl) ?q16)))))))))
  case q16 => rw [if_neg (by omega)] at hQ; exact hQ _ _ ⟨rfl, hw'⟩
  case q34 =>
    rw [if_pos (by omega)] at hQ
    exact hQ _ _ ⟨rfl, _, _, Pck.mk (kd := kd) (pc := pc) (nb := nb) (hs := hs) (od := od) rfl rfl (t_of (by omega)) hD ⟨j1, j2, j3, j4, j5⟩, hrw, rfl⟩
set_option maxRecDepth 20000 in
set_option maxHeartbeats 1000000 in
theorem c_cross (hN : g_N E) (hw : Apk E a D r L im tc w) (p o : Int32) : g_Ci E mX7_cross (d + 3) [.ref (a 0), .int p, .int o] w (fun y w' => y = (sCross D L p o).1 ∧ Apk E a (sCross D L p o).2.1 r (sCross D L p o).2.2 im tc w') := by
  have hw' := hw
  obtain ⟨kd, pc, nb, hs, od, pl, ov, on, ot, be, rfl, hD, j1, j2, j3, j4, j5, hL, hpk, hrw⟩ := hw.lit
  obtain ⟨hn, l1, l2, l3, l4, b1, b2, b3, b4, b5, hnd⟩ := id hD
  refine g_enterI hN.1 (by decide) [some (.ref (a 0)), some (.int p), some (.int o)] rfl (Nat.le_of_ble_eq_true rfl) (fun A Q hQ => ?_)
  have tcm4 := tc_m4; have tcm2 := tc_m2; have tc0 := tc_0; have tc1 := tc_1; have tc2 := tc_2; have tc40 := tc_40
  have e1 := t_nI (n := D.1.length) (by omega)
  have eL := t_nI (n := L.length) (by omega)
  have e2 : (nI D.1.length - 2).toInt = (D.1.length : Int) - 2 := by rw [t_sub (by omega) (by omega)]; omega
  have z0 := g_biz (p := ((0 : Int32).toInt ≤ p.toInt ∧ p.toInt ≤ (nI D.1.length - 2).toInt))
  have z1 := g_biz (p := ((0 : Int32).toInt ≤ o.toInt ∧ o.toInt ≤ (1 : Int32).toInt))
  unfold sCross at hQ
  refine g_iload1 dX7_cross_0 (g_iconst ki_0 dX7_cross_1 (g_aload0 dX7_cross_2 (g_get fl_X7_10 0 rfl rfl dX7_cross_3 (g_get fl_X7_110 1 rfl rfl dX7_cross_6 (g_iconst ki_2 dX7_cross_9 (g_isub dX7_cross_10 (r_X7_isWithin hN mv_X7_100 dX7_cross_11 (Nat.le_of_ble_eq_true rfl) (Nat.le_of_ble_eq_true rfl) rfl (g_if_eq (tgt := 26) dX7_cross_14 (by decide) (fun h14 => g_bipush kb_m2 dX7_cross_26 (g_iret rfl dX7_cross_28 (Nat.le_of_ble_eq_true rfl) (Nat.le_of_ble_eq_true rfl) ?q28)) (fun h14 => g_iload2 dX7_cross_17 (g_iconst ki_0 dX7_cross_18 (g_iconst ki_1 dX7_cross_19 (r_X7_isWithin hN mv_X7_100 dX7_cross_20 (Nat.le_of_ble_eq_true rfl) (Nat.le_of_ble_eq_true rfl) rfl (g_if_ne (tgt := 29) dX7_cross_23 (by decide) (fun h23 => g_aload0 dX7_cross_29 (g_get fl_X7_10 0 rfl rfl dX7_cross_30 (g_get fl_X7_104 1 rfl rfl dX7_cross_33 (g_get fl_X7_107 7 rfl rfl dX7_cross_36 (g_bipush kb_40 dX7_cross_39 (g_icmp_lt (tgt := 47) dX7_cross_41 (by decide) (fun h41 => g_aload0 dX7_cross_47 (g_get fl_X7_10 0 rfl rfl dX7_cross_48 (g_get fl_X7_104 1 rfl rfl dX7_cross_51 (g_iload1 dX7_cross_54 (g_iload2 dX7_cross_55 (g_aload0 dX7_cross_56 (g_get fl_X7_10 0 rfl rfl dX7_cross_57 (g_get fl_X7_152 1 rfl rfl dX7_cross_60 (g_iload1 dX7_cross_63 (g_iaload 6 rfl dX7_cross_64 ?b64 (g_aload0 dX7_cross_65 (g_get fl_X7_10 0 rfl rfl dX7_cross_66 (g_get fl_X7_152 1 rfl rfl dX7_cross_69 (g_iload1 dX7_cross_72 (g_iconst ki_1 dX7_cross_73 (g_iadd dX7_cross_74 (g_iaload 6 rfl dX7_cross_75 ?b75 (g_aload0 dX7_cross_76 (g_get fl_X7_10 0 rfl rfl dX7_cross_77 (g_iload1 dX7_cross_80 (?c81))))))))))))))))))))) (fun h41 => g_bipush kb_m4 dX7_cross_44 (g_iret rfl dX7_cross_46 (Nat.le_of_ble_eq_true rfl) (Nat.le_of_ble_eq_true rfl) ?q46)))))))) (fun h23 => g_bipush kb_m2 dX7_cross_26 (g_iret rfl dX7_cross_28 (Nat.le_of_ble_eq_true rfl) (Nat.le_of_ble_eq_true rfl) ?q28')))))))))))))))
  case q28 => rw [if_pos (by omega)] at hQ; exact hQ _ _ ⟨rfl, hw'⟩
  case q28' => rw [if_pos (by omega)] at hQ; exact hQ _ _ ⟨rfl, hw'⟩
  all_goals rw [if_neg (by omega)] at hQ
  case q46 => rw [if_pos (by omega)] at hQ; exact hQ _ _ ⟨rfl, hw'⟩
  all_goals rw [if_neg (by omega)] at hQ
  all_goals have ep : p = nI p.toInt.toNat := t_of (by omega)
  all_goals have eo : o = nI o.toInt.toNat := t_of (by omega)
  all_goals have ep1 : (p + 1).toInt = ((p.toInt.toNat + 1 : Nat) : Int) := by rw [t_add (by omega) (by omega)]; omega
  case b64 => omega
  case b75 => omega
  case c81 =>
    have hg1 := getD_at (l := D.2.2.2.2) (i := p.toInt.toNat) (by omega)
    have hg2 := getD_at (l := D.2.2.2.2) (i := p.toInt.toNat + 1) (by omega)
    rw [ep1, Int.toNat_natCast, j5.at hg1, j5.at hg2]
    have hdb := c_dogsBefore (d := d) hN hpk (p := p.toInt.toNat) (by omega)
    rw [← ep] at hdb
    refine g_V1i dX7_cross_81 mv_X7_155 1 rfl rfl rfl (Nat.le_of_ble_eq_true rfl) (Nat.le_of_ble_eq_true rfl) (hdb.frame (X := [(a 0, dolO a im tc)])) (fun r1 w1 hq => ?_)
    obtain ⟨w2, ⟨rfl, rfl⟩, rfl⟩ := hq
    have hm1 := b5 _ (List.mem_of_getElem? hg1)
    have hm2 := b5 _ (List.mem_of_getElem? hg2)
    have hbs := bset_lt (D.2.2.2.2.take p.toInt.toNat) (fun x hx => by have := b5 x (List.mem_of_mem_take hx); omega)
    have hpt := c_put (d := d + 1) hN hrw (by omega) (c := crOf D.2.2.2.2 p.toInt.toNat o.toInt.toNat) ⟨by show p.toInt.toNat < 1000; omega, by show o.toInt.toNat < 1000; omega, by show D.2.2.2.2.getD p.toInt.toNat 0 < 1000; omega, by show D.2.2.2.2.getD (p.toInt.toNat + 1) 0 < 1000; omega, by show bset (D.2.2.2.2.take p.toInt.toNat) < 1000; omega⟩
    dsimp only [crOf] at hpt
    rw [← ep, ← eo] at hpt
    refine g_sub (ws' := ((a 0, dolO a im tc) :: packW E a 1 kd pc nb hs od (nI D.1.length) (nI r)) ++ (rowW E a 7 pl ov on ot be (nI L.length) ++ [])) [0, 1, 2, 3, 4, 5, 6, 7, 8, 9, 10, 11, 12] (by decide) rfl ?_
    refine g_V5v dX7_cross_84 mv_X7_158 7 rfl rfl rfl (Nat.le_of_ble_eq_true rfl) (Nat.le_of_ble_eq_true rfl) (hpt.frame) (fun w1 hq => ?_)
    obtain ⟨w2, hq2, rfl⟩ := hq
    have hq2' := hq2
    obtain ⟨-, pl2, ov2, on2, ot2, be2, rfl, -⟩ := hq2
    have hcp := c_changePlaces (d := d) hN hpk (p := p.toInt.toNat) (by omega)
    rw [← ep] at hcp
    refine g_aload0 dX7_cross_87 (g_get fl_X7_10 0 rfl rfl dX7_cross_88 (g_iload1 dX7_cross_91 (?c92_2)))
    refine g_V1v dX7_cross_92 mv_X7_162 1 rfl rfl rfl (Nat.le_of_ble_eq_true rfl) (Nat.le_of_ble_eq_true rfl) (hcp.frame (X := [(a 0, dolO a im tc)])) (fun w1 hq => ?_)
    obtain ⟨w2, hq3, rfl⟩ := hq
    have hq3' := hq3
    obtain ⟨-, kd3, pc3, nb3, hs3, od3, rfl, -⟩ := hq3
    refine g_aload0 dX7_cross_95 (g_get fl_X7_10 0 rfl rfl dX7_cross_96 (g_get fl_X7_104 1 rfl rfl dX7_cross_99 (g_get fl_X7_107 7 rfl rfl dX7_cross_102 (g_iret rfl dX7_cross_105 (Nat.le_of_ble_eq_true rfl) (Nat.le_of_ble_eq_true rfl) ?q105_3))))
    refine hQ _ _ ⟨by rw [List.length_append]; rfl, _, _, hq3', hq2', rfl⟩
set_option maxRecDepth 20000 in
set_option maxHeartbeats 1000000 in
theorem c_undo (hN : g_N E) (hw : Apk E a D r L im tc w) (hv : ∀ c ∈ L, c.1 + 1 < D.1.length) : g_Ci E mX7_undo (d + 3) [.ref (a 0)] w (fun y w' => y = (sUndo D L).1 ∧ Apk E a (sUndo D L).2.1 r (sUndo D L).2.2 im tc w') := by
  rcases List.eq_nil_or_concat L with rfl | ⟨L', c, hc⟩
  · have hw' := hw
    obtain ⟨kd, pc, nb, hs, od, pl, ov, on, ot, be, rfl, hD, j1, j2, j3, j4, j5, hL, hpk, hrw⟩ := hw.lit
    refine g_enterI hN.1 (by decide) [some (.ref (a 0)), none] rfl (Nat.le_of_ble_eq_true rfl) (fun A Q hQ => ?_)
    have tcm3 := tc_m3; have tc1 := tc_1
    have e0 : (nI ([] : List Cr).length).toInt = 0 := by decide
    refine g_aload0 dX7_undo_0 (g_get fl_X7_10 0 rfl rfl dX7_undo_1 (g_get fl_X7_104 1 rfl rfl dX7_undo_4 (g_astore1 dX7_undo_7 rfl rfl (g_aload1 dX7_undo_8 (g_get fl_X7_107 7 rfl rfl dX7_undo_9 (g_if_gt (tgt := 18) dX7_undo_12 (by decide) (fun h12 => ?s18) (fun h12 => g_bipush kb_m3 dX7_undo_15 (g_iret rfl dX7_undo_17 (Nat.le_of_ble_eq_true rfl) (Nat.le_of_ble_eq_true rfl) ?q17))))))))
    case s18 => omega
    case q17 => exact hQ _ _ ⟨rfl, hw'⟩
  · rw [List.concat_eq_append] at hc
    subst hc
    obtain ⟨wp, wr, hpk, hrw, rfl⟩ := hw
    have hpk' := hpk
    obtain ⟨hD, kd, pc, nb, hs, od, rfl, j1, j2, j3, j4, j5⟩ := hpk
    obtain ⟨hL, pl, ov, on, ot, be, rfl, hrl⟩ := hrw
    have hlen : (L' ++ [c]).length = L'.length + 1 := by rw [List.length_append]; rfl
    have hS : sUndo D (L' ++ [c]) = (nI L'.length, dgO D (swapL D.2.2.2.2 c.1), L') := by
      unfold sUndo
      rw [List.getLast?_concat, hlen, List.dropLast_concat]
      rfl
    rw [hS]
    refine g_enterI hN.1 (by decide) [some (.ref (a 0)), none] rfl (Nat.le_of_ble_eq_true rfl) (fun A Q hQ => ?_)
    have tcm3 := tc_m3; have tc1 := tc_1
    have ec := hv c (by simp)
    have eL := t_nI (n := (L' ++ [c]).length) (by omega)
    have e3 : nI (L' ++ [c]).length - 1 = nI L'.length := by rw [hlen]; exact nI_pred _
    have e4 := t_nI (n := L'.length) (by omega)
    have hlast := hrl L'.length c (by rw [List.getElem?_append_right (Nat.le_refl _), Nat.sub_self]; rfl)
    refine g_aload0 dX7_undo_0 (g_get fl_X7_10 0 rfl rfl dX7_undo_1 (g_get fl_X7_104 1 rfl rfl dX7_undo_4 (g_astore1 dX7_undo_7 rfl rfl (g_aload1 dX7_undo_8 (g_get fl_X7_107 7 rfl rfl dX7_undo_9 (g_if_gt (tgt := 18) dX7_undo_12 (by decide) (fun h12 => g_aload0 dX7_undo_18 (g_get fl_X7_10 0 rfl rfl dX7_undo_19 (g_aload1 dX7_undo_22 (g_get fl_X7_165 7 rfl rfl dX7_undo_23 (g_aload1 dX7_undo_26 (g_get fl_X7_107 7 rfl rfl dX7_undo_27 (g_iconst ki_1 dX7_undo_30 (g_isub dX7_undo_31 (g_iaload 8 rfl dX7_undo_32 ?b32_2 (?c33_2)))))))))) (fun h12 => g_bipush kb_m3 dX7_undo_15 (g_iret rfl dX7_undo_17 (Nat.le_of_ble_eq_true rfl) (Nat.le_of_ble_eq_true rfl) ?q17_2))))))))
    case q17_2 => omega
    case b32_2 => rw [e3]; omega
    case c33_2 =>
      rw [e3, e4, Int.toNat_natCast, hlast.2.1]
      refine g_V1v dX7_undo_33 mv_X7_162 1 rfl rfl rfl (Nat.le_of_ble_eq_true rfl) (Nat.le_of_ble_eq_true rfl) ((c_changePlaces hN hpk' (p := c.1) (by omega)).frame (X := [(a 0, dolO a im tc)])) (fun w1 hq => ?_)
      obtain ⟨w2, hp3, rfl⟩ := hq
      have hp3' := hp3
      obtain ⟨-, kd3, pc3, nb3, hs3, od3, rfl, -⟩ := hp3
      refine g_aload1 dX7_undo_36 (g_dup dX7_undo_37 rfl (g_get fl_X7_107 7 rfl rfl dX7_undo_38 (g_iconst ki_1 dX7_undo_41 (g_isub dX7_undo_42 (g_put fl_X7_107 fp_3_5 7 rfl rfl rfl (Nat.le_of_ble_eq_true rfl) dX7_undo_43 (g_aload1 dX7_undo_46 (g_get fl_X7_107 7 rfl rfl dX7_undo_47 (g_iret rfl dX7_undo_50 (Nat.le_of_ble_eq_true rfl) (Nat.le_of_ble_eq_true rfl) ?q50_3))))))))
      rw [e3]
      refine hQ _ _ ⟨rfl, _, _, hp3', Row.mk (pl := pl) (ov := ov) (on := on) (ot := ot) (be := be) rfl rfl (by show L'.length ≤ 40; omega) ?_, rfl⟩
      intro i c' hi
      have := (List.getElem?_eq_some_iff.mp hi).1
      exact hrl i c' (by rw [List.getElem?_append_left this]; exact hi)
set_option maxRecDepth 20000 in
theorem c_isUnder (hE : g_E E adK adV ta) (x k : Int32) : g_Ci E mX7_isUnder (d + 2) [.int x, .int k] [] (fun y w' => y = g_bi (undF 6 x k = true) ∧ w' = []) := by
  have hN := g_E_N hE
  refine g_enterI hN.1 (by decide) [some (.int x), some (.int k), none, none] rfl (Nat.le_of_ble_eq_true rfl) (fun A Q hQ => ?_)
  have tc0 := tc_0; have tc1 := tc_1; have tc5 := tc_5
  generalize hF : undF 6 x k = F at hQ
  have e6 : (nI (arL 0)).toInt = 6 := by decide
  have loop : ∀ t i y, i + t = 6 → F = undF t y k → G E mX7_isUnder (d + 2) 0 0 A Q 0 0 4 [some (.int x), some (.int k), some (.int y), some (.int (nI i))] [] [] := by
    intro t
    induction t with
    | zero =>
      intro i y hi hu
      have ei := t_nI (n := i) (by omega)
      refine g_iload3 dX7_isUnder_4 (?c5)
      refine g_getsA hE 0 (by omega) fs_X7_300 dX7_isUnder_5 (g_alenA hE 0 (by omega) dX7_isUnder_8 ?_)
      refine g_icmp_ge (tgt := 40) dX7_isUnder_9 (by decide) (fun h9 => g_iconst ki_0 dX7_isUnder_40 (g_zret rfl (by first | exact g_bi01 _ | exact Or.inl rfl | exact Or.inr rfl) dX7_isUnder_41 (Nat.le_of_ble_eq_true rfl) (Nat.le_of_ble_eq_true rfl) ?q41_2)) (fun h9 => ?s12_2)
      case s12_2 => omega
      case q41_2 => exact hQ _ _ ⟨by rw [hu]; rfl, rfl⟩
    | succ t ih =>
      intro i y hi hu
      have ei := t_nI (n := i) (by omega)
      have z0 := g_biz (p := ((0 : Int32).toInt ≤ y.toInt ∧ y.toInt ≤ (5 : Int32).toInt))
      rw [undF] at hu
      refine g_iload3 dX7_isUnder_4 (?c5_3)
      refine g_getsA hE 0 (by omega) fs_X7_300 dX7_isUnder_5 (g_alenA hE 0 (by omega) dX7_isUnder_8 ?_)
      refine g_icmp_ge (tgt := 40) dX7_isUnder_9 (by decide) (fun h9 => ?s40_4) (fun h9 => g_iload2 dX7_isUnder_12 (g_iconst ki_0 dX7_isUnder_13 (g_iconst ki_5 dX7_isUnder_14 (r_X7_isWithin hN mv_X7_100 dX7_isUnder_15 (Nat.le_of_ble_eq_true rfl) (Nat.le_of_ble_eq_true rfl) rfl (g_if_eq (tgt := 40) dX7_isUnder_18 (by decide) (fun h18 => ?s40_4') (fun h18 => g_iload2 dX7_isUnder_21 (g_iload1 dX7_isUnder_22 (g_icmp_ne (tgt := 28) dX7_isUnder_23 (by decide) (fun h23 => ?c28_4) (fun h23 => g_iconst ki_1 dX7_isUnder_26 (g_zret rfl (by first | exact g_bi01 _ | exact Or.inl rfl | exact Or.inr rfl) dX7_isUnder_27 (Nat.le_of_ble_eq_true rfl) (Nat.le_of_ble_eq_true rfl) ?q27_4))))))))))
      case s40_4 => omega
      case s40_4' =>
        rw [if_neg (by omega)] at hu
        refine g_iconst ki_0 dX7_isUnder_40 (g_zret rfl (by first | exact g_bi01 _ | exact Or.inl rfl | exact Or.inr rfl) dX7_isUnder_41 (Nat.le_of_ble_eq_true rfl) (Nat.le_of_ble_eq_true rfl) ?q41_5)
        exact hQ _ _ ⟨by rw [hu]; rfl, rfl⟩
      case q27_4 =>
        rw [if_pos (by omega), if_pos h23] at hu
        exact hQ _ _ ⟨by rw [hu]; rfl, rfl⟩
      case c28_4 =>
        rw [if_pos (by omega), if_neg h23] at hu
        refine g_getsA hE 0 (by omega) fs_X7_300 dX7_isUnder_28 ?_
        refine g_iload2 dX7_isUnder_31 (?s32_6)
        refine g_ialdA hE 0 (by omega) dX7_isUnder_32 ⟨by omega, by show y.toInt < 6; omega⟩ ?_
        refine g_istore2 dX7_isUnder_33 rfl rfl (g_iinc3 ki_1 dX7_isUnder_34 rfl rfl (g_goto (tgt := 4) dX7_isUnder_37 (by decide) (?s4_7)))
        rw [nI_1]
        exact ih (i + 1) _ (by omega) hu
  refine g_iload0 dX7_isUnder_0 (g_istore2 dX7_isUnder_1 rfl rfl (g_iconst ki_0 dX7_isUnder_2 (g_istore3 dX7_isUnder_3 rfl rfl (?s4_8))))
  exact loop 6 0 x rfl hF.symm
set_option maxRecDepth 20000 in
theorem c_taken (hE : g_E E adK adV ta) (hw : Apk E a D r L im tc w) (x k : Int32) : g_Ci E mX7_taken (d + 3) [.ref (a 0), .int x, .int k] w (fun y w' => y = sTaken D x k ∧ w' = w) := by
  have hN := g_E_N hE
  have hw' := hw
  obtain ⟨kd, pc, nb, hs, od, pl, ov, on, ot, be, rfl, hD, j1, j2, j3, j4, j5, hL, hpk, hrw⟩ := hw.lit
  obtain ⟨hn, l1, l2, l3, l4, b1, b2, b3, b4, b5, hnd⟩ := id hD
  refine g_enterI hN.1 (by decide) [some (.ref (a 0)), some (.int x), some (.int k)] rfl (Nat.le_of_ble_eq_true rfl) (fun A Q hQ => ?_)
  have tcm13 := tc_m13; have tcm11 := tc_m11; have tcm2 := tc_m2; have tc0 := tc_0; have tc5 := tc_5
  have z0 := g_biz (p := ((0 : Int32).toInt ≤ k.toInt ∧ k.toInt ≤ (5 : Int32).toInt))
  have z1 := g_biz (p := (0 ≤ x.toInt ∧ x.toInt < D.1.length))
  unfold sTaken at hQ
  refine g_iload2 dX7_taken_0 (g_iconst ki_0 dX7_taken_1 (g_iconst ki_5 dX7_taken_2 (r_X7_isWithin hN mv_X7_100 dX7_taken_3 (Nat.le_of_ble_eq_true rfl) (Nat.le_of_ble_eq_true rfl) rfl (g_if_ne (tgt := 12) dX7_taken_6 (by decide) (fun h6 => g_aload0 dX7_taken_12 (g_iload1 dX7_taken_13 (?c14))) (fun h6 => g_bipush kb_m2 dX7_taken_9 (g_iret rfl dX7_taken_11 (Nat.le_of_ble_eq_true rfl) (Nat.le_of_ble_eq_true rfl) ?q11))))))
  case q11 => rw [if_pos (by omega)] at hQ; exact hQ _ _ ⟨rfl, rfl⟩
  case c14 =>
    rw [if_neg (by omega)] at hQ
    refine g_V1i dX7_taken_14 mv_X7_115 0 rfl rfl rfl (Nat.le_of_ble_eq_true rfl) (Nat.le_of_ble_eq_true rfl) (c_isDog hN hw' x) (fun r1 w1 hq => ?_)
    obtain ⟨rfl, rfl⟩ := hq
    refine g_if_ne (tgt := 23) dX7_taken_17 (by decide) (fun h17 => g_aload0 dX7_taken_23 (g_get fl_X7_10 0 rfl rfl dX7_taken_24 (g_get fl_X7_132 1 rfl rfl dX7_taken_27 (g_iload1 dX7_taken_30 (g_iaload 2 rfl dX7_taken_31 ?b31_2 (g_iload2 dX7_taken_32 (?c33_2))))))) (fun h17 => g_bipush kb_m11 dX7_taken_20 (g_iret rfl dX7_taken_22 (Nat.le_of_ble_eq_true rfl) (Nat.le_of_ble_eq_true rfl) ?q22_2))
    case q22_2 => rw [if_pos (by omega)] at hQ; exact hQ _ _ ⟨rfl, rfl⟩
    case b31_2 => omega
    case c33_2 =>
      rw [if_neg (by omega)] at hQ
      have hg := getD_at (l := D.1) (i := x.toInt.toNat) (by omega)
      have hkd := b1 _ (List.mem_of_getElem? hg)
      rw [j1.at hg]
      have hu := c_isUnder (d := d) hE (nI (D.1.getD x.toInt.toNat 0)) k
      rw [t_of (a := k) (by omega), und_ok _ hkd _ (show k.toInt.toNat ≤ 5 by omega), ← t_of (a := k) (by omega)] at hu
      refine g_S2i dX7_taken_33 mv_X7_297 rfl (Nat.le_of_ble_eq_true rfl) (Nat.le_of_ble_eq_true rfl) (hu.frame (X := []) (Y := (a 0, dolO a im tc) :: (packW E a 1 kd pc nb hs od (nI D.1.length) (nI r) ++ rowW E a 7 pl ov on ot be (nI L.length)))) (fun r1 w1 hq => ?_)
      obtain ⟨w2, ⟨rfl, rfl⟩, rfl⟩ := hq
      have z2 := g_biz (p := (undB (D.1.getD x.toInt.toNat 0) k.toInt.toNat = true))
      refine g_if_eq (tgt := 51) dX7_taken_36 (by decide) (fun h36 => g_bipush kb_m13 dX7_taken_51 (g_iret rfl dX7_taken_53 (Nat.le_of_ble_eq_true rfl) (Nat.le_of_ble_eq_true rfl) ?q53_3)) (fun h36 => g_aload0 dX7_taken_39 (g_get fl_X7_10 0 rfl rfl dX7_taken_40 (g_get fl_X7_126 1 rfl rfl dX7_taken_43 (g_iload1 dX7_taken_46 (g_iaload 4 rfl dX7_taken_47 ?b47_3 (g_goto (tgt := 53) dX7_taken_48 (by decide) (g_iret rfl dX7_taken_53 (Nat.le_of_ble_eq_true rfl) (Nat.le_of_ble_eq_true rfl) ?q53_3')))))))
      case q53_3 => rw [if_neg (z2.mp h36)] at hQ; exact hQ _ _ ⟨rfl, rfl⟩
      case b47_3 => omega
      case q53_3' =>
        rw [if_pos (by
          by_cases q : undB (D.1.getD x.toInt.toNat 0) k.toInt.toNat = true
          · exact q
          · exact absurd (z2.mpr q) h36)] at hQ
        exact hQ _ _ ⟨j3.at (getD_at (by omega)), rfl⟩
end S42
