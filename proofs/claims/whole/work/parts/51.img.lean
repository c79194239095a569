/-! image and back -/
/-- with the kept dogs and their plait -/
def Akp (E : GE) (a : Nat → Nat) (D : Dg) (r : Nat) (L : List Cr) (D2 : Dg) (r2 : Nat) (L2 : List Cr) (im tc : Int32) (w : va_W) : Prop := ∃ wp wr wk wl, Pck E a 1 D r wp ∧ Row E a 7 L wr ∧ Pck E a 13 D2 r2 wk ∧ Row E a 19 L2 wl ∧ w = (a 0, dolO a im tc) :: (wp ++ (wr ++ (wk ++ wl)))
section S51
variable {E : GE} {d : Nat} {a : Nat → Nat} {D D2 : Dg} {r r2 : Nat} {L L2 : List Cr} {im tc : Int32} {w : va_W}
set_option maxRecDepth 20000 in
set_option maxHeartbeats 1000000 in
theorem c_image (hN : g_N E) (hw : Akp E a D r L D2 r2 L2 im tc w) : g_Ci E mX7_image (d + 4) [.ref (a 0)] w (fun z w' => z = nI D.1.length ∧ Akp E a D r L D r L 1 tc w') := by
  obtain ⟨wp, wr, wk, wl, hp, hr, hk, hl, rfl⟩ := hw
  have hp' := hp
  have hr' := hr
  have hk' := hk
  have hl' := hl
  obtain ⟨hD, kd, pc, nb, hs, od, rfl, -⟩ := hp
  obtain ⟨hL, pl, ov, on, ot, be, rfl, -⟩ := hr
  obtain ⟨-, kd2, pc2, nb2, hs2, od2, rfl, -⟩ := hk
  obtain ⟨-, pl2, ov2, on2, ot2, be2, rfl, -⟩ := hl
  refine g_enterI hN.1 (by decide) [some (.ref (a 0))] rfl (Nat.le_of_ble_eq_true rfl) (fun A Q hQ => ?_)
  have tc1 := tc_1
  refine g_aload0 dX7_image_0 (g_get fl_X7_16 0 rfl rfl dX7_image_1 (g_aload0 dX7_image_4 (g_get fl_X7_10 0 rfl rfl dX7_image_5 (?c8))))
  refine g_sub (ws' := [(a 0, dolO a im tc)] ++ ((packW E a 13 kd2 pc2 nb2 hs2 od2 (nI D2.1.length) (nI r2) ++ (rowW E a 19 pl2 ov2 on2 ot2 be2 (nI L2.length) ++ (packW E a 1 kd pc nb hs od (nI D.1.length) (nI r) ++ rowW E a 7 pl ov on ot be (nI L.length)))) ++ [])) [0, 13, 14, 15, 16, 17, 18, 19, 20, 21, 22, 23, 24, 1, 2, 3, 4, 5, 6, 7, 8, 9, 10, 11, 12] (by decide) rfl ?_
  refine g_V1v dX7_image_8 mv_X7_266 1 rfl rfl rfl (Nat.le_of_ble_eq_true rfl) (Nat.le_of_ble_eq_true rfl) ((c_pckBecome hN hk' hl' hp' hr').frame) (fun w1 hq => ?_)
  obtain ⟨w1, ⟨wk, wl, hk3, hl3, rfl⟩, rfl⟩ := hq
  have hk3' := hk3
  have hl3' := hl3
  obtain ⟨-, kd3, pc3, nb3, hs3, od3, rfl, -⟩ := hk3
  obtain ⟨-, pl3, ov3, on3, ot3, be3, rfl, -⟩ := hl3
  refine g_sub (ws' := ((a 0, dolO a im tc) :: (packW E a 1 kd pc nb hs od (nI D.1.length) (nI r) ++ (rowW E a 7 pl ov on ot be (nI L.length) ++ (packW E a 13 kd3 pc3 nb3 hs3 od3 (nI D.1.length) (nI r) ++ rowW E a 19 pl3 ov3 on3 ot3 be3 (nI L.length)))))) [0, 13, 14, 15, 16, 17, 18, 19, 20, 21, 22, 23, 24, 1, 2, 3, 4, 5, 6, 7, 8, 9, 10, 11, 12] (by decide) rfl ?_
  refine g_aload0 dX7_image_11 (g_iconst ki_1 dX7_image_12 (g_put fl_X7_19 fp_6_2 0 rfl ?n13_2 rfl (Nat.le_of_ble_eq_true rfl) dX7_image_13 (g_aload0 dX7_image_16 (g_get fl_X7_10 0 rfl rfl dX7_image_17 (g_get fl_X7_110 1 rfl rfl dX7_image_20 (g_iret rfl dX7_image_23 (Nat.le_of_ble_eq_true rfl) (Nat.le_of_ble_eq_true rfl) ?q23_2))))))
  case q23_2 => exact hQ _ _ ⟨rfl, _, _, _, _, hp', hr', hk3', hl3', rfl⟩
  all_goals first | rfl | decide
set_option maxRecDepth 20000 in
set_option maxHeartbeats 1000000 in
theorem c_back (hN : g_N E) (hw : Akp E a D r L D2 r2 L2 im tc w) : g_Ci E mX7_back (d + 4) [.ref (a 0)] w (fun z w' => if im.toInt = 0 then z = -3 ∧ w' = w else z = nI D2.1.length ∧ Akp E a D2 r2 L2 D2 r2 L2 im tc w') := by
  obtain ⟨wp, wr, wk, wl, hp, hr, hk, hl, rfl⟩ := hw
  have hp' := hp
  have hr' := hr
  have hk' := hk
  have hl' := hl
  obtain ⟨hD, kd, pc, nb, hs, od, rfl, -⟩ := hp
  obtain ⟨hL, pl, ov, on, ot, be, rfl, -⟩ := hr
  obtain ⟨-, kd2, pc2, nb2, hs2, od2, rfl, -⟩ := hk
  obtain ⟨-, pl2, ov2, on2, ot2, be2, rfl, -⟩ := hl
  refine g_enterI hN.1 (by decide) [some (.ref (a 0))] rfl (Nat.le_of_ble_eq_true rfl) (fun A Q hQ => ?_)
  have tcm3 := tc_m3
  refine g_aload0 dX7_back_0 (g_get fl_X7_19 0 rfl rfl dX7_back_1 (g_if_ne (tgt := 10) dX7_back_4 (by decide) (fun h4 => g_aload0 dX7_back_10 (g_get fl_X7_10 0 rfl rfl dX7_back_11 (g_aload0 dX7_back_14 (g_get fl_X7_16 0 rfl rfl dX7_back_15 (?c18))))) (fun h4 => g_bipush kb_m3 dX7_back_7 (g_iret rfl dX7_back_9 (Nat.le_of_ble_eq_true rfl) (Nat.le_of_ble_eq_true rfl) ?q9))))
  case q9 => exact hQ _ _ (by rw [if_pos h4]; exact ⟨rfl, rfl⟩)
  case c18 =>
    refine g_sub (ws' := [(a 0, dolO a im tc)] ++ ((packW E a 1 kd pc nb hs od (nI D.1.length) (nI r) ++ (rowW E a 7 pl ov on ot be (nI L.length) ++ (packW E a 13 kd2 pc2 nb2 hs2 od2 (nI D2.1.length) (nI r2) ++ rowW E a 19 pl2 ov2 on2 ot2 be2 (nI L2.length)))) ++ [])) [0, 1, 2, 3, 4, 5, 6, 7, 8, 9, 10, 11, 12, 13, 14, 15, 16, 17, 18, 19, 20, 21, 22, 23, 24] (by decide) rfl ?_
    refine g_V1v dX7_back_18 mv_X7_266 1 rfl rfl rfl (Nat.le_of_ble_eq_true rfl) (Nat.le_of_ble_eq_true rfl) ((c_pckBecome hN hp' hr' hk' hl').frame) (fun w1 hq => ?_)
    obtain ⟨w1, ⟨wk, wl, hk3, hl3, rfl⟩, rfl⟩ := hq
    have hk3' := hk3
    have hl3' := hl3
    obtain ⟨-, kd3, pc3, nb3, hs3, od3, rfl, -⟩ := hk3
    obtain ⟨-, pl3, ov3, on3, ot3, be3, rfl, -⟩ := hl3
    refine g_aload0 dX7_back_21 (g_get fl_X7_10 0 rfl rfl dX7_back_22 (g_get fl_X7_110 1 rfl rfl dX7_back_25 (g_iret rfl dX7_back_28 (Nat.le_of_ble_eq_true rfl) (Nat.le_of_ble_eq_true rfl) ?q28_2)))
    refine hQ _ _ ?_
    rw [if_neg h4]
    exact ⟨rfl, _, _, _, _, hk3', hl3', hk', hl', rfl⟩
end S51
