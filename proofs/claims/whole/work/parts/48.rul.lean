/-! the rule -/
abbrev raT (E : GE) (a : Nat → Nat) : va_E := .inl (E.2.2.1 3, 6, .inr (.inr (.inr (.inr (fun i => some (a (54 + 4 * i)))))))
def txtOK (C : List Int32) (e : Nat → Nat) : Prop := e 0 ≤ e 1 ∧ e 1 ≤ e 2 ∧ e 2 ≤ C.length
/-- with the texts' row, the names, the rule's text -/
def Arl (E : GE) (a : Nat → Nat) (D : Dg) (r : Nat) (L : List Cr) (im tc : Int32) (C : List Int32) (e : Nat → Nat) (w : va_W) : Prop := ∃ w1 nm wt, Apk E a D r L im tc w1 ∧ r < 6 ∧ txtOK C e ∧ Txt E a (54 + 4 * r) C e wt ∧ w = w1 ++ ((a 48, raT E a) :: (a 49, ia E 6 nm) :: wt)
theorem work1_congr {nm nm' : Nat → Int32} (h : ∀ i, i ≤ 5 → nm i = nm' i) (s : List Int32) (t : Int32) : work1 nm s t = work1 nm' s t := by
  unfold work1
  by_cases h1 : 32 ≤ t.toInt
  · rw [if_pos h1, if_pos h1]
  · rw [if_neg h1, if_neg h1]
    by_cases h2 : 0 ≤ t.toInt ∧ t.toInt ≤ 5
    · rw [if_pos h2, if_pos h2, h _ (by omega)]
    · rw [if_neg h2, if_neg h2]
theorem rpnR_congr {nm nm' : Nat → Int32} (h : ∀ i, i ≤ 5 → nm i = nm' i) (C : List Int32) : ∀ (t i : Nat) (s : List Int32), rpnR C nm i t s = rpnR C nm' i t s
  | 0, _, _ => rfl
  | t + 1, i, s => by rw [rpnR, rpnR, work1_congr h, rpnR_congr h C t]
def pdN (P : List Nat) (x y : Nat) : Nat := if P.getD x 0 < P.getD y 0 then P.getD y 0 - P.getD x 0 else P.getD x 0 - P.getD y 0
def nmF (n : Nat) (P : List Nat) (x y : Nat) (near hand : Int32) : Nat → Int32 := fun i => if i = 0 then nI (min x y) else if i = 1 then nI (max x y) else if i = 2 then nI (pdN P x y) else if i = 3 then near else if i = 4 then nI n else hand
def rlI (C : List Int32) (e : Nat → Nat) (part : Nat) (nm : Nat → Int32) : Int := max (if part = 1 then -99 else 0) (min 99 (rpnV C nm (if part = 0 then 0 else e (part - 1)) (e part)).toInt)
theorem nI_min {x y : Nat} (hx : x < 1000) (hy : y < 1000) : (if nI y < nI x then nI y else nI x) = nI (min x y) := by
  have h := t_min (nI x) (nI y)
  refine t_ext ?_
  rw [h, t_nI (by omega), t_nI (by omega), t_nI (by omega)]
  omega
theorem nI_max {x y : Nat} (hx : x < 1000) (hy : y < 1000) : (if nI x < nI y then nI y else nI x) = nI (max x y) := by
  have h := t_max (nI x) (nI y)
  refine t_ext ?_
  rw [h, t_nI (by omega), t_nI (by omega), t_nI (by omega)]
  omega
theorem nI_abs {x y : Nat} (hx : x < 1000) (hy : y < 1000) : (if 0 ≤ nI x - nI y then nI x - nI y else 0 - (nI x - nI y)) = nI (if x < y then y - x else x - y) := by
  have h1 := t_nI (n := x) (by omega)
  have h2 := t_nI (n := y) (by omega)
  have h3 : (nI x - nI y).toInt = (x : Int) - y := by rw [t_sub (by omega) (by omega), h1, h2]
  have h := t_abs (x := nI x - nI y) (by omega)
  refine t_ext ?_
  rw [h, h3, t_nI (by split <;> omega)]
  split <;> omega
section S48
variable {E : GE} {d : Nat} {a : Nat → Nat} {D : Dg} {r : Nat} {L : List Cr} {im tc : Int32} {w : va_W} {adK adV ta : Nat → Nat} {C : List Int32} {e : Nat → Nat}
set_option maxRecDepth 20000 in
set_option maxHeartbeats 2000000 in
theorem c_ruled (hE : g_E E adK adV ta) (hw : Arl E a D r L im tc C e w) {part x y : Nat} (hp3 : part < 3) (hx : x < D.1.length) (hy : y < D.1.length) (near hand : Int32) : g_Ci E mX7_ruled (d + 5) [.ref (a 0), .int (nI part), .int (nI x), .int (nI y), .int near, .int hand] w (fun z w' => z.toInt = rlI C e part (nmF D.1.length D.2.1 x y near hand) ∧ Arl E a D r L im tc C e w') := by
  have hN := g_E_N hE
  obtain ⟨w1, nm, wt, hA, hr6, hok, hT, rfl⟩ := hw
  have hT' := hT
  have hA' := hA
  obtain ⟨kd, pc, nb, hs, od, pl, ov, on, ot, be, rfl, hD, j1, j2, j3, j4, j5, hL, hpk, hrw⟩ := hA.lit
  obtain ⟨hn, l1, l2, l3, l4, b1, b2, b3, b4, b5, hnd⟩ := id hD
  obtain ⟨-, code, ends, stk, hh, rfl, -⟩ := hT
  have ex := t_nI (n := x) (by omega)
  have ey := t_nI (n := y) (by omega)
  have er := t_nI (n := r) (by omega)
  have epp := t_nI (n := part) (by omega)
  have g1 := getD_at (l := D.2.1) (i := x) (by omega)
  have g2 := getD_at (l := D.2.1) (i := y) (by omega)
  have c1 := b2 _ (List.mem_of_getElem? g1)
  have c2 := b2 _ (List.mem_of_getElem? g2)
  refine g_enterI hN.1 (by decide) [some (.ref (a 0)), some (.int (nI part)), some (.int (nI x)), some (.int (nI y)), some (.int near), some (.int hand), none] rfl (Nat.le_of_ble_eq_true rfl) (fun A Q hQ => ?_)
  have tc0 := tc_0; have tc1 := tc_1; have tc2 := tc_2; have tc3 := tc_3; have tc4 := tc_4; have tc5 := tc_5
  refine g_aload0 dX7_ruled_0 (g_get fl_X7_59 0 rfl rfl dX7_ruled_1 (g_iconst ki_0 dX7_ruled_4 (g_iload2 dX7_ruled_5 (g_iload3 dX7_ruled_6 (g_mmin wm_X7_184 dX7_ruled_7 (Nat.le_of_ble_eq_true rfl) (Nat.le_of_ble_eq_true rfl) rfl (g_iastore 14 rfl dX7_ruled_10 ?b10 (g_aload0 dX7_ruled_11 (g_get fl_X7_59 0 rfl rfl dX7_ruled_12 (g_iconst ki_1 dX7_ruled_15 (g_iload2 dX7_ruled_16 (g_iload3 dX7_ruled_17 (g_mmax wm_X7_303 dX7_ruled_18 (Nat.le_of_ble_eq_true rfl) (Nat.le_of_ble_eq_true rfl) rfl (g_iastore 14 rfl dX7_ruled_21 ?b21 (g_aload0 dX7_ruled_22 (g_get fl_X7_59 0 rfl rfl dX7_ruled_23 (g_iconst ki_2 dX7_ruled_26 (g_aload0 dX7_ruled_27 (g_get fl_X7_10 0 rfl rfl dX7_ruled_28 (g_get fl_X7_119 1 rfl rfl dX7_ruled_31 (g_iload2 dX7_ruled_34 (g_iaload 3 rfl dX7_ruled_35 ?b35 (g_aload0 dX7_ruled_36 (g_get fl_X7_10 0 rfl rfl dX7_ruled_37 (g_get fl_X7_119 1 rfl rfl dX7_ruled_40 (g_iload3 dX7_ruled_43 (g_iaload 3 rfl dX7_ruled_44 ?b44 (g_isub dX7_ruled_45 (g_mabs wm_X7_306 dX7_ruled_46 (Nat.le_of_ble_eq_true rfl) (Nat.le_of_ble_eq_true rfl) rfl (g_iastore 14 rfl dX7_ruled_49 ?b49 (g_aload0 dX7_ruled_50 (g_get fl_X7_59 0 rfl rfl dX7_ruled_51 (g_iconst ki_3 dX7_ruled_54 (g_iload4 dX7_ruled_55 (g_iastore 14 rfl dX7_ruled_57 ?b57 (g_aload0 dX7_ruled_58 (g_get fl_X7_59 0 rfl rfl dX7_ruled_59 (g_iconst ki_4 dX7_ruled_62 (g_aload0 dX7_ruled_63 (g_get fl_X7_10 0 rfl rfl dX7_ruled_64 (g_get fl_X7_110 1 rfl rfl dX7_ruled_67 (g_iastore 14 rfl dX7_ruled_70 ?b70 (g_aload0 dX7_ruled_71 (g_get fl_X7_59 0 rfl rfl dX7_ruled_72 (g_iconst ki_5 dX7_ruled_75 (g_iload5 dX7_ruled_76 (g_iastore 14 rfl dX7_ruled_78 ?b78 (g_aload0 dX7_ruled_79 (g_get fl_X7_49 0 rfl rfl dX7_ruled_80 (g_aload0 dX7_ruled_83 (g_get fl_X7_10 0 rfl rfl dX7_ruled_84 (g_get fl_X7_149 1 rfl rfl dX7_ruled_87 (g_aaload 3 13 rfl rfl dX7_ruled_90 ?b90 (?a90)))))))))))))))))))))))))))))))))))))))))))))))))))))
  case a90 =>
    rw [er, Int.toNat_natCast, ex, ey, Int.toNat_natCast, Int.toNat_natCast, j2.at g1, j2.at g2, nI_min (by omega) (by omega), nI_max (by omega) (by omega), nI_abs (by omega) (by omega), tc0, tc1, tc2, tc3, tc4, tc5]
    dsimp only [List.set, List.cons_append, List.nil_append, va_rf]
    refine g_iload1 dX7_ruled_91 (g_aload0 dX7_ruled_92 (g_get fl_X7_59 0 rfl rfl dX7_ruled_93 (?c96_2)))
    generalize hnm : (upd (upd (upd (upd (upd (upd nm (0 : Int).toNat (nI (min x y))) (1 : Int).toNat (nI (max x y))) (2 : Int).toNat (nI (if D.2.1.getD x 0 < D.2.1.getD y 0 then D.2.1.getD y 0 - D.2.1.getD x 0 else D.2.1.getD x 0 - D.2.1.getD y 0))) (3 : Int).toNat near) (4 : Int).toNat (nI D.1.length)) (5 : Int).toNat hand) = nm2
    have hcong : ∀ i, i ≤ 5 → nm2 i = nmF D.1.length D.2.1 x y near hand i := by
      intro i hi
      rw [← hnm]
      match i, hi with
      | 0, _ => rfl
      | 1, _ => rfl
      | 2, _ => rfl
      | 3, _ => rfl
      | 4, _ => rfl
      | 5, _ => rfl
    have hvo := c_valueOf (d := d) hN hT' hp3 (by
      obtain ⟨q1, q2, q3⟩ := hok
      match part, hp3 with
      | 0, _ => exact Nat.zero_le _
      | 1, _ => exact q1
      | 2, _ => exact q2) (by
      obtain ⟨q1, q2, q3⟩ := hok
      match part, hp3 with
      | 0, _ => omega
      | 1, _ => omega
      | 2, _ => omega) (a 49) nm2
    refine g_sub (ws' := ((a 0, dolO a im tc) :: (packW E a 1 kd pc nb hs od (nI D.1.length) (nI r) ++ (rowW E a 7 pl ov on ot be (nI L.length) ++ [(a 48, raT E a)]))) ++ ((txtW E a (54 + 4 * r) code ends stk (nI C.length) hh ++ [(a 49, ia E 6 nm2)]) ++ [])) [0, 1, 2, 3, 4, 5, 6, 7, 8, 9, 10, 11, 12, 13, 15, 16, 17, 18, 14] (by decide) rfl ?_
    refine g_V2i dX7_ruled_96 mv_X7_309 14 rfl rfl rfl (Nat.le_of_ble_eq_true rfl) (Nat.le_of_ble_eq_true rfl) (hvo.frame) (fun r1 w1 hq => ?_)
    obtain ⟨w3, ⟨hz, w4, hw4, rfl⟩, rfl⟩ := hq
    have hw4' := hw4
    obtain ⟨-, code4, ends4, stk4, hh4, rfl, -⟩ := hw4
    refine g_sub (ws' := ((a 0, dolO a im tc) :: (packW E a 1 kd pc nb hs od (nI D.1.length) (nI r) ++ rowW E a 7 pl ov on ot be (nI L.length))) ++ ((a 48, raT E a) :: (a 49, ia E 6 nm2) :: txtW E a (54 + 4 * r) code4 ends4 stk4 (nI C.length) hh4)) [0, 1, 2, 3, 4, 5, 6, 7, 8, 9, 10, 11, 12, 13, 18, 14, 15, 16, 17] (by decide) rfl ?_
    refine g_istore6 dX7_ruled_99 rfl rfl (?c101_3)
    refine g_getsA hE 1 (by omega) fs_X7_313 dX7_ruled_101 ?_
    refine g_iload1 dX7_ruled_104 (?s105_4)
    refine g_ialdA hE 1 (by omega) dX7_ruled_105 ⟨by omega, by show _ < (3 : Int); omega⟩ ?_
    refine g_getsA hE 2 (by omega) fs_X7_316 dX7_ruled_106 ?_
    refine g_iload1 dX7_ruled_109 (?s110_5)
    refine g_ialdA hE 2 (by omega) dX7_ruled_110 ⟨by omega, by show _ < (3 : Int); omega⟩ ?_
    refine g_iload6 dX7_ruled_111 (g_mmin wm_X7_184 dX7_ruled_113 (Nat.le_of_ble_eq_true rfl) (Nat.le_of_ble_eq_true rfl) rfl (g_mmax wm_X7_303 dX7_ruled_116 (Nat.le_of_ble_eq_true rfl) (Nat.le_of_ble_eq_true rfl) rfl (g_iret rfl dX7_ruled_119 (Nat.le_of_ble_eq_true rfl) (Nat.le_of_ble_eq_true rfl) ?q119_6)))
    refine hQ _ _ ⟨?_, _, _, _, hA', hr6, hok, hw4', rfl⟩
    rw [t_max, t_min, hz, epp, Int.toNat_natCast]
    unfold rlI rpnV
    rw [rpnR_congr hcong]
    match part, hp3 with
    | 0, _ => rfl
    | 1, _ => rfl
    | 2, _ => rfl
  all_goals omega
end S48
