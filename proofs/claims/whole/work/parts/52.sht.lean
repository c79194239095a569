/-! the sheets -/
abbrev raS (E : GE) (a : Nat → Nat) : va_E := .inl (E.2.2.1 2, 4, .inr (.inr (.inr (.inr (fun i => some (a (78 + 2 * i)))))))
/-- the object, the sheets' row, one sheet -/
def Ash (E : GE) (a : Nat → Nat) (im tc : Int32) (i : Nat) (s : Int32 × List Int32) (w : va_W) : Prop := i < 4 ∧ ∃ ws, Sht E a (78 + 2 * i) s.1 s.2 ws ∧ w = (a 0, dolO a im tc) :: (a 50, raS E a) :: ws
def shN (x : Int32) (i : Nat) : Prop := 0 ≤ x.toInt ∧ x.toInt ≤ 3 → x.toInt.toNat = i
def sSheet (x so m : Int32) (s : Int32 × List Int32) : Int32 × Int32 × List Int32 :=
  if ¬ ((0 ≤ x.toInt ∧ x.toInt ≤ 3) ∧ (-1 ≤ so.toInt ∧ so.toInt ≤ 2)) then (-2, s)
  else if so.toInt = -1 then (1, -1, [])
  else if 40 < m.toInt then (-2, s)
  else if m.toInt < 0 then (-14, s)
  else (1, so, List.replicate m.toInt.toNat 0)
def sCell (x j v : Int32) (s : Int32 × List Int32) : Int32 × Int32 × List Int32 :=
  if ¬ (0 ≤ x.toInt ∧ x.toInt ≤ 3) then (-2, s)
  else if s.1.toInt = -1 then (-11, s)
  else if ¬ (0 ≤ j.toInt ∧ j.toInt < s.2.length) then (-12, s)
  else (1, s.1, s.2.set j.toInt.toNat (cnv s.1 v))
section S52
variable {E : GE} {d : Nat} {a : Nat → Nat} {im tc : Int32} {w : va_W} {i : Nat} {s : Int32 × List Int32}
set_option maxRecDepth 20000 in
set_option maxHeartbeats 1000000 in
theorem c_sheet (hN : g_N E) (hw : Ash E a im tc i s w) (x so m : Int32) (hx : shN x i) : g_Ci E mX7_sheet (d + 4) [.ref (a 0), .int x, .int so, .int m] w (fun z w' => z = (sSheet x so m s).1 ∧ Ash E a im tc i (sSheet x so m s).2 w') := by
  have hw' := hw
  obtain ⟨hi, ws, hs, rfl⟩ := hw
  have hs' := hs
  obtain ⟨hV, it, rfl, hit⟩ := hs
  refine g_enterI hN.1 (by decide) [some (.ref (a 0)), some (.int x), some (.int so), some (.int m)] rfl (Nat.le_of_ble_eq_true rfl) (fun A Q hQ => ?_)
  have tcm14 := tc_m14; have tcm2 := tc_m2; have tcm1 := tc_m1; have tc0 := tc_0; have tc1 := tc_1; have tc2 := tc_2; have tc40 := tc_40
  have z0 := g_biz (p := (0 ≤ x.toInt ∧ x.toInt ≤ 3))
  have z1 := g_biz (p := ((-1 : Int32).toInt ≤ so.toInt ∧ so.toInt ≤ (2 : Int32).toInt))
  unfold sSheet at hQ
  refine g_iload1 dX7_sheet_0 (r_X7_isSheet hN mv_X7_269 dX7_sheet_1 (Nat.le_of_ble_eq_true rfl) (Nat.le_of_ble_eq_true rfl) rfl (g_if_eq (tgt := 16) dX7_sheet_4 (by decide) (fun h4 => g_bipush kb_m2 dX7_sheet_16 (g_iret rfl dX7_sheet_18 (Nat.le_of_ble_eq_true rfl) (Nat.le_of_ble_eq_true rfl) ?q18)) (fun h4 => g_iload2 dX7_sheet_7 (g_iconst ki_m1 dX7_sheet_8 (g_iconst ki_2 dX7_sheet_9 (r_X7_isWithin hN mv_X7_100 dX7_sheet_10 (Nat.le_of_ble_eq_true rfl) (Nat.le_of_ble_eq_true rfl) rfl (g_if_ne (tgt := 19) dX7_sheet_13 (by decide) (fun h13 => g_iload2 dX7_sheet_19 (g_iconst ki_m1 dX7_sheet_20 (g_icmp_ne (tgt := 37) dX7_sheet_21 (by decide) (fun h21 => g_iload3 dX7_sheet_37 (g_bipush kb_40 dX7_sheet_38 (g_icmp_le (tgt := 46) dX7_sheet_40 (by decide) (fun h40 => g_iload3 dX7_sheet_46 (g_if_ge (tgt := 53) dX7_sheet_47 (by decide) (fun h47 => g_aload0 dX7_sheet_53 (g_get fl_X7_65 0 rfl rfl dX7_sheet_54 (g_iload1 dX7_sheet_57 (g_aaload 2 1 rfl rfl dX7_sheet_58 ?b58 (?a58))))) (fun h47 => g_bipush kb_m14 dX7_sheet_50 (g_iret rfl dX7_sheet_52 (Nat.le_of_ble_eq_true rfl) (Nat.le_of_ble_eq_true rfl) ?q52)))) (fun h40 => g_bipush kb_m2 dX7_sheet_43 (g_iret rfl dX7_sheet_45 (Nat.le_of_ble_eq_true rfl) (Nat.le_of_ble_eq_true rfl) ?q45))))) (fun h21 => g_aload0 dX7_sheet_24 (g_get fl_X7_65 0 rfl rfl dX7_sheet_25 (g_iload1 dX7_sheet_28 (g_aaload 2 1 rfl rfl dX7_sheet_29 ?b29 (?a29)))))))) (fun h13 => g_bipush kb_m2 dX7_sheet_16 (g_iret rfl dX7_sheet_18 (Nat.le_of_ble_eq_true rfl) (Nat.le_of_ble_eq_true rfl) ?q18')))))))))
  case q18 => rw [if_pos (by omega)] at hQ; exact hQ _ _ ⟨rfl, hw'⟩
  case q18' => rw [if_pos (by omega)] at hQ; exact hQ _ _ ⟨rfl, hw'⟩
  all_goals rw [if_neg (by omega)] at hQ
  case q45 => rw [if_neg (by omega), if_pos (by omega)] at hQ; exact hQ _ _ ⟨rfl, hw'⟩
  case q52 => rw [if_neg (by omega), if_neg (by omega), if_pos (by omega)] at hQ; exact hQ _ _ ⟨rfl, hw'⟩
  case a29 =>
    rw [if_pos (by omega)] at hQ
    rw [hx (by omega)]
    dsimp only [va_rf]
    refine g_iconst ki_m1 dX7_sheet_30 (g_iconst ki_0 dX7_sheet_31 (?c32_2))
    refine g_V2v dX7_sheet_32 mv_X7_272 2 rfl rfl rfl (Nat.le_of_ble_eq_true rfl) (Nat.le_of_ble_eq_true rfl) ((c_shtBecome hN hs' (-1) 0 (by decide) (by decide)).frame (X := [(a 0, dolO a im tc), (a 50, raS E a)]) (Y := [])) (fun w1 hq => ?_)
    obtain ⟨w3, hw3, rfl⟩ := hq
    refine g_iconst ki_1 dX7_sheet_35 (g_iret rfl dX7_sheet_36 (Nat.le_of_ble_eq_true rfl) (Nat.le_of_ble_eq_true rfl) ?q36_3)
    exact hQ _ _ ⟨rfl, hi, _, hw3, by rw [List.append_nil]; rfl⟩
  case a58 =>
    rw [if_neg (by omega), if_neg (by omega), if_neg (by omega)] at hQ
    rw [hx (by omega)]
    dsimp only [va_rf]
    refine g_iload2 dX7_sheet_59 (g_iload3 dX7_sheet_60 (?c61_4))
    refine g_V2v dX7_sheet_61 mv_X7_272 2 rfl rfl rfl (Nat.le_of_ble_eq_true rfl) (Nat.le_of_ble_eq_true rfl) ((c_shtBecome hN hs' so m (by omega) (by omega)).frame (X := [(a 0, dolO a im tc), (a 50, raS E a)]) (Y := [])) (fun w1 hq => ?_)
    obtain ⟨w3, hw3, rfl⟩ := hq
    refine g_iconst ki_1 dX7_sheet_64 (g_iret rfl dX7_sheet_65 (Nat.le_of_ble_eq_true rfl) (Nat.le_of_ble_eq_true rfl) ?q65_5)
    exact hQ _ _ ⟨rfl, hi, _, hw3, by rw [List.append_nil]; rfl⟩
  all_goals exact ⟨by omega, by show _ < (4 : Int); omega⟩
set_option maxRecDepth 20000 in
set_option maxHeartbeats 1000000 in
theorem c_cell (hN : g_N E) (hw : Ash E a im tc i s w) (x j v : Int32) (hx : shN x i) : g_Ci E mX7_cell (d + 5) [.ref (a 0), .int x, .int j, .int v] w (fun z w' => z = (sCell x j v s).1 ∧ Ash E a im tc i (sCell x j v s).2 w') := by
  have hw' := hw
  obtain ⟨hi, ws, hs, rfl⟩ := hw
  have hs' := hs
  obtain ⟨hV, it, rfl, hit⟩ := hs
  have eV := t_nI (n := s.2.length) (by omega)
  refine g_enterI hN.1 (by decide) [some (.ref (a 0)), some (.int x), some (.int j), some (.int v), none] rfl (Nat.le_of_ble_eq_true rfl) (fun A Q hQ => ?_)
  have tcm12 := tc_m12; have tcm11 := tc_m11; have tcm2 := tc_m2; have tcm1 := tc_m1; have tc1 := tc_1
  have z0 := g_biz (p := (0 ≤ x.toInt ∧ x.toInt ≤ 3))
  unfold sCell at hQ
  refine g_iload1 dX7_cell_0 (r_X7_isSheet hN mv_X7_269 dX7_cell_1 (Nat.le_of_ble_eq_true rfl) (Nat.le_of_ble_eq_true rfl) rfl (g_if_ne (tgt := 10) dX7_cell_4 (by decide) (fun h4 => g_aload0 dX7_cell_10 (g_get fl_X7_65 0 rfl rfl dX7_cell_11 (g_iload1 dX7_cell_14 (g_aaload 2 1 rfl rfl dX7_cell_15 ?b15 (?a15))))) (fun h4 => g_bipush kb_m2 dX7_cell_7 (g_iret rfl dX7_cell_9 (Nat.le_of_ble_eq_true rfl) (Nat.le_of_ble_eq_true rfl) ?q9))))
  case q9 => rw [if_pos (by omega)] at hQ; exact hQ _ _ ⟨rfl, hw'⟩
  all_goals rw [if_neg (by omega)] at hQ
  case b15 => exact ⟨by omega, by show _ < (4 : Int); omega⟩
  case a15 =>
    rw [hx (by omega)]
    dsimp only [va_rf]
    refine g_astore4 dX7_cell_16 rfl rfl (g_aload4 dX7_cell_18 (g_get fl_X7_275 2 rfl rfl dX7_cell_20 (g_iconst ki_m1 dX7_cell_23 (g_icmp_ne (tgt := 30) dX7_cell_24 (by decide) (fun h24 => g_aload4 dX7_cell_30 (g_iload2 dX7_cell_32 (?c33_2))) (fun h24 => g_bipush kb_m11 dX7_cell_27 (g_iret rfl dX7_cell_29 (Nat.le_of_ble_eq_true rfl) (Nat.le_of_ble_eq_true rfl) ?q29_2))))))
    case q29_2 => rw [if_pos (by omega)] at hQ; exact hQ _ _ ⟨rfl, hw'⟩
    case c33_2 =>
      rw [if_neg (by omega)] at hQ
      have z1 := g_biz (p := (0 ≤ j.toInt ∧ j.toInt < (nI s.2.length).toInt))
      refine g_V1i dX7_cell_33 mv_X7_278 2 rfl rfl rfl (Nat.le_of_ble_eq_true rfl) (Nat.le_of_ble_eq_true rfl) ((c_holds hN (by omega) j).frame (X := [(a 0, dolO a im tc), (a 50, raS E a)]) (Y := [])) (fun r1 w1 hq => ?_)
      obtain ⟨w3, ⟨rfl, rfl⟩, rfl⟩ := hq
      refine g_if_ne (tgt := 42) dX7_cell_36 (by decide) (fun h36 => g_aload4 dX7_cell_42 (g_iload2 dX7_cell_44 (g_iload3 dX7_cell_45 (?c46_3)))) (fun h36 => g_bipush kb_m12 dX7_cell_39 (g_iret rfl dX7_cell_41 (Nat.le_of_ble_eq_true rfl) (Nat.le_of_ble_eq_true rfl) ?q41_3))
      case q41_3 => rw [if_pos (by omega)] at hQ; exact hQ _ _ ⟨rfl, hw'⟩
      case c46_3 =>
        rw [if_neg (by omega)] at hQ
        refine g_V2v dX7_cell_46 mv_X7_281 2 rfl rfl rfl (Nat.le_of_ble_eq_true rfl) (Nat.le_of_ble_eq_true rfl) ((c_write hN hs' j v (by omega)).frame (X := [(a 0, dolO a im tc), (a 50, raS E a)]) (Y := [])) (fun w1 hq => ?_)
        obtain ⟨w3, hw3, rfl⟩ := hq
        refine g_iconst ki_1 dX7_cell_49 (g_iret rfl dX7_cell_50 (Nat.le_of_ble_eq_true rfl) (Nat.le_of_ble_eq_true rfl) ?q50_4)
        exact hQ _ _ ⟨rfl, hi, _, hw3, by rw [List.append_nil]; rfl⟩
end S52
