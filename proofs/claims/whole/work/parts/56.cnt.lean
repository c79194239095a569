/-! count, cost -/
def sCount (D : Dg) (r : Nat) (L : List Cr) (T : List Nat) (tc k : Int32) : Int32 :=
  if k.toInt = 0 then nI D.1.length else if k.toInt = 1 then nI L.length else if k.toInt = 2 then nI (tanL L).length else if k.toInt = 3 then tc else if k.toInt = 4 then nI T.length else if k.toInt = 5 then nI r else -2
def cosF (D : Dg) (C : List Int32) (e : Nat → Nat) (Lt : List Cr) : Nat → Int
  | 0 => 0
  | t + 1 => cosF D C e Lt t + rhI D C e 2 (Lt.getD t (0, 0, 0, 0, 0)).2.2.1 (Lt.getD t (0, 0, 0, 0, 0)).2.2.2.1
theorem cosF_b (D : Dg) (C : List Int32) (e : Nat → Nat) (Lt : List Cr) : ∀ t, 0 ≤ cosF D C e Lt t ∧ cosF D C e Lt t ≤ 99 * t
  | 0 => by unfold cosF; omega
  | t + 1 => by
    have h1 := cosF_b D C e Lt t
    unfold cosF rhI
    have h2 := fun nm => rlI_0 C e nm (part := 2) (by omega)
    generalize nmF _ _ _ _ _ _ = nm
    have := h2 nm
    omega
section S56
variable {E : GE} {d : Nat} {a : Nat → Nat} {im tc : Int32} {w w1 w2 : va_W} {T : List Nat} {adK adV ta : Nat → Nat} {e : Nat → Nat} {C : List Int32} {D : Dg} {r : Nat} {L Lt : List Cr}
set_option maxRecDepth 20000 in
set_option maxHeartbeats 2000000 in
theorem c_count (hN : g_N E) (hw : Atg E a D r L Lt im tc w1) (hr : RdrI E a 42 T w2) (k : Int32) : g_Ci E mX7_count (d + 5) [.ref (a 0), .int k] (w1 ++ w2) (fun z w' => z = sCount D r L T tc k ∧ ∃ Lt' w1', Atg E a D r L Lt' im tc w1' ∧ w' = w1' ++ w2) := by
  have hw' := hw
  obtain ⟨kd, pc, nb, hs, od, pl, ov, on, ot, be, pl2, ov2, on2, ot2, be2, rfl, hL, hLt, h2, hp, hr0, ht⟩ := hw.lit
  obtain ⟨tp, nx, tk, at_, nu, rfl, htp⟩ := hr
  refine g_enterI hN.1 (by decide) [some (.ref (a 0)), some (.int k)] rfl (Nat.le_of_ble_eq_true rfl) (fun A Q hQ => ?_)
  have tcm2 := tc_m2
  unfold sCount at hQ
  refine g_iload1 dX7_count_0 (g_case (c := 0) (fun h1 => g_tsw_in (tgt := 40) 0 dX7_count_1 h1 (by decide) rfl (by decide) (g_aload0 dX7_count_40 (g_get fl_X7_10 0 rfl rfl dX7_count_41 (g_get fl_X7_110 1 rfl rfl dX7_count_44 (g_iret rfl dX7_count_47 (Nat.le_of_ble_eq_true rfl) (Nat.le_of_ble_eq_true rfl) ?q47))))) (fun n1_0 => g_case (c := 1) (fun h1 => g_tsw_in (tgt := 48) 1 dX7_count_1 h1 (by decide) rfl (by decide) (g_aload0 dX7_count_48 (g_get fl_X7_10 0 rfl rfl dX7_count_49 (g_get fl_X7_104 1 rfl rfl dX7_count_52 (g_get fl_X7_107 7 rfl rfl dX7_count_55 (g_iret rfl dX7_count_58 (Nat.le_of_ble_eq_true rfl) (Nat.le_of_ble_eq_true rfl) ?q58)))))) (fun n1_1 => g_case (c := 2) (fun h1 => g_tsw_in (tgt := 59) 2 dX7_count_1 h1 (by decide) rfl (by decide) (g_aload0 dX7_count_59 (?c60))) (fun n1_2 => g_case (c := 3) (fun h1 => g_tsw_in (tgt := 71) 3 dX7_count_1 h1 (by decide) rfl (by decide) (g_aload0 dX7_count_71 (g_get fl_X7_53 0 rfl rfl dX7_count_72 (g_iret rfl dX7_count_75 (Nat.le_of_ble_eq_true rfl) (Nat.le_of_ble_eq_true rfl) ?q75)))) (fun n1_3 => g_case (c := 4) (fun h1 => g_tsw_in (tgt := 76) 4 dX7_count_1 h1 (by decide) rfl (by decide) (g_aload0 dX7_count_76 (g_get fl_X7_43 0 rfl rfl dX7_count_77 (g_get fl_X7_148 19 rfl rfl dX7_count_80 (g_iret rfl dX7_count_83 (Nat.le_of_ble_eq_true rfl) (Nat.le_of_ble_eq_true rfl) ?q83))))) (fun n1_4 => g_case (c := 5) (fun h1 => g_tsw_in (tgt := 84) 5 dX7_count_1 h1 (by decide) rfl (by decide) (g_aload0 dX7_count_84 (g_get fl_X7_10 0 rfl rfl dX7_count_85 (g_get fl_X7_149 1 rfl rfl dX7_count_88 (g_iret rfl dX7_count_91 (Nat.le_of_ble_eq_true rfl) (Nat.le_of_ble_eq_true rfl) ?q91))))) (fun n1_5 => g_tsw_out (tgt := 92) dX7_count_1 (by omega) (by decide) (g_bipush kb_m2 dX7_count_92 (g_iret rfl dX7_count_94 (Nat.le_of_ble_eq_true rfl) (Nat.le_of_ble_eq_true rfl) ?q94)))))))))
  case q47 => rw [if_pos (by omega)] at hQ; exact hQ _ _ ⟨rfl, _, _, hw', rfl⟩
  all_goals rw [if_neg (by omega)] at hQ
  case q58 => rw [if_pos (by omega)] at hQ; exact hQ _ _ ⟨rfl, _, _, hw', rfl⟩
  all_goals rw [if_neg (by omega)] at hQ
  case c60 =>
    rw [if_pos (by omega)] at hQ
    refine g_V0v dX7_count_60 mv_X7_168 0 rfl rfl rfl (Nat.le_of_ble_eq_true rfl) (Nat.le_of_ble_eq_true rfl) ((c_makeTangle hN hw').frame (X := []) (Y := rdrW E a 42 tp (nI T.length) nx tk at_ nu)) (fun w1 hq => ?_)
    obtain ⟨w3, hw3, rfl⟩ := hq
    have hw3' := hw3
    obtain ⟨kd, pc, nb, hs, od, pl, ov, on, ot, be, pl2, ov2, on2, ot2, be2, rfl, hL, hLt, h2, hp, hr0, ht⟩ := hw3.lit
    refine g_aload0 dX7_count_63 (g_get fl_X7_26 0 rfl rfl dX7_count_64 (g_get fl_X7_107 13 rfl rfl dX7_count_67 (g_iret rfl dX7_count_70 (Nat.le_of_ble_eq_true rfl) (Nat.le_of_ble_eq_true rfl) ?q70_2)))
    exact hQ _ _ ⟨rfl, _, _, hw3', rfl⟩
  all_goals rw [if_neg (by omega)] at hQ
  case q75 => rw [if_pos (by omega)] at hQ; exact hQ _ _ ⟨rfl, _, _, hw', rfl⟩
  all_goals rw [if_neg (by omega)] at hQ
  case q83 => rw [if_pos (by omega)] at hQ; exact hQ _ _ ⟨rfl, _, _, hw', rfl⟩
  all_goals rw [if_neg (by omega)] at hQ
  case q91 => rw [if_pos (by omega)] at hQ; exact hQ _ _ ⟨rfl, _, _, hw', rfl⟩
  case q94 => rw [if_neg (by omega)] at hQ; exact hQ _ _ ⟨rfl, _, _, hw', rfl⟩
/-- the rule's world, and the tangle's row -/
def Acs (E : GE) (a : Nat → Nat) (D : Dg) (r : Nat) (L : List Cr) (im tc : Int32) (C : List Int32) (e : Nat → Nat) (Lt : List Cr) (w : va_W) : Prop := ∃ w1 w2, Arl E a D r L im tc C e w1 ∧ Row E a 25 Lt w2 ∧ w = w1 ++ w2
set_option maxRecDepth 20000 in
set_option maxHeartbeats 2000000 in
theorem c_cost (hE : g_E E adK adV ta) (hw : Acs E a D r L im tc C e Lt w) (hv : plOK D.1.length L) : g_Ci E mX7_cost (d + 7) [.ref (a 0)] w (fun z w' => z.toInt = cosF D C e (tanL L) (tanL L).length ∧ Acs E a D r L im tc C e (tanL L) w') := by
  have hN := g_E_N hE
  have hw' := hw
  obtain ⟨w1, w2, hA, hR, rfl⟩ := hw
  obtain ⟨kd, pc, nb, hs, od, pl, ov, on, ot, be, nm, code, ends, stk, hh, rfl, hD, j5, hpk⟩ := hA.lit
  obtain ⟨hLt, pl2, ov2, on2, ot2, be2, rfl, hr2⟩ := hR
  have htl := tanL_len L
  refine g_enterI hN.1 (by decide) [some (.ref (a 0)), none, none] rfl (Nat.le_of_ble_eq_true rfl) (fun A Q hQ => ?_)
  have tc0 := tc_0; have tc1 := tc_1; have tc2 := tc_2
  refine g_aload0 dX7_cost_0 (?c1)
  have hA1 := hA
  obtain ⟨w1, nm0, wt, hA2, hr6, hok, hT, hww⟩ := hA1
  have hT' := hT
  have hA2' := hA2
  obtain ⟨wp, wr, hp2, hr22, rfl⟩ := hA2
  have hp2' := hp2
  have hr22' := hr22
  obtain ⟨-, kdx, pcx, nbx, hsx, odx, rfl, -⟩ := hp2
  obtain ⟨-, plx, ovx, onx, otx, bex, rfl, -⟩ := hr22
  obtain ⟨-, codex, endsx, stkx, hhx, rfl, -⟩ := hT
  rw [hww]
  refine g_sub (ws' := ((a 0, dolO a im tc) :: (packW E a 1 kdx pcx nbx hsx odx (nI D.1.length) (nI r) ++ (rowW E a 7 plx ovx onx otx bex (nI L.length) ++ rowW E a 25 pl2 ov2 on2 ot2 be2 (nI Lt.length)))) ++ ((a 48, raT E a) :: (a 49, ia E 6 nm0) :: txtW E a (54 + 4 * r) codex endsx stkx (nI C.length) hhx)) [0, 1, 2, 3, 4, 5, 6, 7, 8, 9, 10, 11, 12, 19, 20, 21, 22, 23, 24, 13, 14, 15, 16, 17, 18] (by decide) rfl ?_
  have hAtg : Atg E a D r L Lt im tc ((a 0, dolO a im tc) :: (packW E a 1 kdx pcx nbx hsx odx (nI D.1.length) (nI r) ++ (rowW E a 7 plx ovx onx otx bex (nI L.length) ++ rowW E a 25 pl2 ov2 on2 ot2 be2 (nI Lt.length)))) := ⟨_, _, _, hp2', hr22', ⟨hLt, pl2, ov2, on2, ot2, be2, rfl, hr2⟩, rfl⟩
  refine g_V0v dX7_cost_1 mv_X7_168 0 rfl rfl rfl (Nat.le_of_ble_eq_true rfl) (Nat.le_of_ble_eq_true rfl) ((c_makeTangle (d := d + 2) hN hAtg).frame (X := []) (Y := (a 48, raT E a) :: (a 49, ia E 6 nm0) :: txtW E a (54 + 4 * r) codex endsx stkx (nI C.length) hhx)) (fun w1 hq => ?_)
  obtain ⟨w3, hw3, rfl⟩ := hq
  obtain ⟨kd3, pc3, nb3, hs3, od3, pl3, ov3, on3, ot3, be3, pl2, ov2, on2, ot2, be2, rfl, hL3, hLt, hr2, hp3, hr3, ht3⟩ := hw3.lit
  refine g_sub (ws' := (((a 0, dolO a im tc) :: (packW E a 1 kd3 pc3 nb3 hs3 od3 (nI D.1.length) (nI r) ++ rowW E a 7 pl3 ov3 on3 ot3 be3 (nI L.length))) ++ ((a 48, raT E a) :: (a 49, ia E 6 nm0) :: txtW E a (54 + 4 * r) codex endsx stkx (nI C.length) hhx)) ++ rowW E a 25 pl2 ov2 on2 ot2 be2 (nI (tanL L).length)) [0, 1, 2, 3, 4, 5, 6, 7, 8, 9, 10, 11, 12, 19, 20, 21, 22, 23, 24, 13, 14, 15, 16, 17, 18] (by decide) rfl ?_
  have hA0 : Arl E a D r L im tc C e (((a 0, dolO a im tc) :: (packW E a 1 kd3 pc3 nb3 hs3 od3 (nI D.1.length) (nI r) ++ rowW E a 7 pl3 ov3 on3 ot3 be3 (nI L.length))) ++ ((a 48, raT E a) :: (a 49, ia E 6 nm0) :: txtW E a (54 + 4 * r) codex endsx stkx (nI C.length) hhx)) := ⟨_, _, _, ⟨_, _, hp3, hr3, rfl⟩, hr6, hok, hT', rfl⟩
  have hR' : Row E a 25 (tanL L) (rowW E a 25 pl2 ov2 on2 ot2 be2 (nI (tanL L).length)) := ⟨hLt, pl2, ov2, on2, ot2, be2, rfl, hr2⟩
  have eT := t_nI (n := (tanL L).length) (by omega)
  have loop : ∀ t i (v : Int32) w1, i + t = (tanL L).length → v.toInt = cosF D C e (tanL L) i → Arl E a D r L im tc C e w1 → G E mX7_cost (d + 7) 0 0 A Q 0 0 8 [some (.ref (a 0)), some (.int v), some (.int (nI i))] [] (w1 ++ rowW E a 25 pl2 ov2 on2 ot2 be2 (nI (tanL L).length)) := by
    intro t
    induction t with
    | zero =>
      intro i v w1 hi hv1 hA
      have hA' := hA
      obtain ⟨kd, pc, nb, hs, od, pl, ov, on, ot, be, nm, code, ends, stk, hh, rfl, hD, j5, hpk⟩ := hA.lit
      have ei := t_nI (n := i) (by omega)
      refine g_iload2 dX7_cost_8 (g_aload0 dX7_cost_9 (g_get fl_X7_26 0 rfl rfl dX7_cost_10 (g_get fl_X7_107 19 rfl rfl dX7_cost_13 (g_icmp_ge (tgt := 51) dX7_cost_16 (by decide) (fun h16 => g_iload1 dX7_cost_51 (g_iret rfl dX7_cost_52 (Nat.le_of_ble_eq_true rfl) (Nat.le_of_ble_eq_true rfl) ?q52_2)) (fun h16 => ?s19_2)))))
      case s19_2 => omega
      case q52_2 => exact hQ _ _ ⟨by rw [hv1, show i = (tanL L).length by omega], _, _, hA', hR', rfl⟩
    | succ t ih =>
      intro i v w1 hi hv1 hA
      have hA' := hA
      obtain ⟨kd, pc, nb, hs, od, pl, ov, on, ot, be, nm, code, ends, stk, hh, rfl, hD, j5, hpk⟩ := hA.lit
      have ei := t_nI (n := i) (by omega)
      obtain ⟨c, hc⟩ : ∃ c, (tanL L)[i]? = some c := ⟨(tanL L)[i], List.getElem?_eq_getElem (by omega)⟩
      have hrc := hr2 i c hc
      have hcv := hv c (tanL_sub (List.mem_of_getElem? hc))
      have hcd : (tanL L).getD i (0, 0, 0, 0, 0) = c := by rw [List.getD_eq_getElem?_getD, hc]; rfl
      have hb1 := cosF_b D C e (tanL L) i
      have hb2 := cosF_b D C e (tanL L) (i + 1)
      rw [cosF, hcd] at hb2
      refine g_iload2 dX7_cost_8 (g_aload0 dX7_cost_9 (g_get fl_X7_26 0 rfl rfl dX7_cost_10 (g_get fl_X7_107 19 rfl rfl dX7_cost_13 (g_icmp_ge (tgt := 51) dX7_cost_16 (by decide) (fun h16 => ?s51_3) (fun h16 => g_iload1 dX7_cost_19 (g_aload0 dX7_cost_20 (g_iconst ki_2 dX7_cost_21 (g_aload0 dX7_cost_22 (g_get fl_X7_26 0 rfl rfl dX7_cost_23 (g_get fl_X7_200 19 rfl rfl dX7_cost_26 (g_iload2 dX7_cost_29 (g_iaload 22 rfl dX7_cost_30 ?b30_3 (g_aload0 dX7_cost_31 (g_get fl_X7_26 0 rfl rfl dX7_cost_32 (g_get fl_X7_203 19 rfl rfl dX7_cost_35 (g_iload2 dX7_cost_38 (g_iaload 23 rfl dX7_cost_39 ?b39_3 (?c40_3))))))))))))))))))
      case s51_3 => omega
      case b30_3 => exact ⟨by omega, by show _ < (40 : Int); omega⟩
      case b39_3 => exact ⟨by omega, by show _ < (40 : Int); omega⟩
      case c40_3 =>
        rw [ei, Int.toNat_natCast, hrc.2.2.2.1, hrc.2.2.2.2.1]
        refine g_V3i dX7_cost_40 mv_X7_144 0 rfl rfl rfl (Nat.le_of_ble_eq_true rfl) (Nat.le_of_ble_eq_true rfl) ((c_ruledInHand (d := d) hE hA' (part := 2) (by omega) hcv.2.2.1 hcv.2.2.2.1).frame (X := []) (Y := rowW E a 25 pl2 ov2 on2 ot2 be2 (nI (tanL L).length))) (fun r1 w1 hq => ?_)
        obtain ⟨w3, ⟨hz, hA3⟩, rfl⟩ := hq
        refine g_iadd dX7_cost_43 (g_istore1 dX7_cost_44 rfl rfl (g_iinc2 ki_1 dX7_cost_45 rfl rfl (g_goto (tgt := 8) dX7_cost_48 (by decide) (?s8_4))))
        rw [nI_1]
        refine ih (i + 1) _ _ (by omega) ?_ hA3
        rw [cosF, hcd, t_add (by omega) (by omega), hv1, hz]
  refine g_iconst ki_0 dX7_cost_4 (g_istore1 dX7_cost_5 rfl rfl (g_iconst ki_0 dX7_cost_6 (g_istore2 dX7_cost_7 rfl rfl (?s8_5))))
  exact loop (tanL L).length 0 0 _ (by omega) rfl hA0
end S56
