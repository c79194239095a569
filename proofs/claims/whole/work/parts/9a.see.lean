/-! the class: rows of crossings that lead to an order -/
def rtF (n : Nat) (Gl : List Nat) (al : Bool) : Nat → List Nat → List Nat → Nat
  | 0, O, _ => if O = Gl then 1 else 0
  | r + 1, O, P => (List.range (n - 1)).foldl (fun acc p => acc + (if (al && wmF P p P.length) = true then 1 else 2) * rtF n Gl al r (swapL O p) (P ++ [p])) 0
abbrev seW (E : GE) (a : Nat → Nat) (im tc : Int32) (n r : Int32) (k : Nat) (it : Nat → Int32) (so m : Int32) (to tp : Nat → Int32) : va_W := [(a 0, dolO a im tc), (a 1, .inr (1, [.ref (a 2), .ref (a 3), .ref (a 4), .ref (a 5), .ref (a 6), .ref (a 7), .int n, .int r])), (a k, .inr (4, [.ref (a (k + 1)), .int so, .int m])), (a (k + 1), ia E 40 it), (a 51, ia E 6 to), (a 52, ia E 4 tp)]
section S9a
variable {E : GE} {d : Nat} {a : Nat → Nat} {im tc rr so m : Int32} {n k : Nat} {it to tp : Nat → Int32}
set_option maxRecDepth 20000 in
set_option maxHeartbeats 200000 in
theorem e_changeTrial (hN : g_N E) {i : Nat} (hi : i + 1 < 6) : g_Cv E mX7_changeTrial (d + 1) [.ref (a 0), .int (nI i)] (seW E a im tc (nI n) rr k it so m to tp) (fun w' => w' = seW E a im tc (nI n) rr k it so m (swG to i) tp) := by
  have ei := t_nI (n := i) (by omega)
  have ei1 := t_nI (n := i + 1) (by omega)
  refine g_enterV hN.1 (by decide) [some (.ref (a 0)), some (.int (nI i)), none] rfl (Nat.le_of_ble_eq_true rfl) (fun A Q hQ => ?_)
  have tc1 := tc_1
  refine g_aload0 dX7_changeTrial_0 (g_get fl_X7_69 0 rfl rfl dX7_changeTrial_1 (g_iload1 dX7_changeTrial_4 (g_iaload 4 rfl dX7_changeTrial_5 ?b5 (g_istore2 dX7_changeTrial_6 rfl rfl (g_aload0 dX7_changeTrial_7 (g_get fl_X7_69 0 rfl rfl dX7_changeTrial_8 (g_iload1 dX7_changeTrial_11 (g_aload0 dX7_changeTrial_12 (g_get fl_X7_69 0 rfl rfl dX7_changeTrial_13 (g_iload1 dX7_changeTrial_16 (g_iconst ki_1 dX7_changeTrial_17 (g_iadd dX7_changeTrial_18 (g_iaload 4 rfl dX7_changeTrial_19 ?b19 (g_iastore 4 rfl dX7_changeTrial_20 ?b20 (g_aload0 dX7_changeTrial_21 (g_get fl_X7_69 0 rfl rfl dX7_changeTrial_22 (g_iload1 dX7_changeTrial_25 (g_iconst ki_1 dX7_changeTrial_26 (g_iadd dX7_changeTrial_27 (g_iload2 dX7_changeTrial_28 (g_iastore 4 rfl dX7_changeTrial_29 ?b29 (g_vret rfl dX7_changeTrial_30 (Nat.le_of_ble_eq_true rfl) (Nat.le_of_ble_eq_true rfl) ?q30))))))))))))))))))))))
  case q30 =>
    refine hQ _ ?_
    rw [nI_1, ei, ei1, Int.toNat_natCast, Int.toNat_natCast]
    rfl
  all_goals try rw [nI_1]
  all_goals exact ⟨by omega, by show _ < (6 : Int); omega⟩
set_option maxRecDepth 20000 in
set_option maxHeartbeats 200000 in
theorem e_isTrial (hN : g_N E) (hn : n ≤ 6) {O Gl : List Nat} (hO : O.length = n) (hG : Gl.length = n) (hob : ∀ x ∈ O, x < 1000) (hgb : ∀ x ∈ Gl, x < 1000) (hLO : Lst O to) (hLG : Lst Gl it) : g_Ci E mX7_isTrialOrder (d + 1) [.ref (a 0), .ref (a k)] (seW E a im tc (nI n) rr k it so m to tp) (fun z w' => z = g_bi (O = Gl) ∧ w' = seW E a im tc (nI n) rr k it so m to tp) := by
  have en := t_nI (n := n) (by omega)
  refine g_enterI hN.1 (by decide) [some (.ref (a 0)), some (.ref (a k)), none] rfl (Nat.le_of_ble_eq_true rfl) (fun A Q hQ => ?_)
  have tc0 := tc_0; have tc1 := tc_1
  have loop : ∀ u p, p + u = n → (∀ j, j < p → O.getD j 0 = Gl.getD j 0) → G E mX7_isTrialOrder (d + 1) 0 0 A Q 0 0 2 [some (.ref (a 0)), some (.ref (a k)), some (.int (nI p))] [] (seW E a im tc (nI n) rr k it so m to tp) := by
    intro u
    induction u with
    | zero =>
      intro p hp hall
      have ep := t_nI (n := p) (by omega)
      have hOG : O = Gl := by
        apply List.ext_getElem?
        intro j
        by_cases hj : j < n
        · rw [getD_at (l := O) (by omega), getD_at (l := Gl) (by omega), hall j (by omega)]
        · rw [List.getElem?_eq_none (by omega), List.getElem?_eq_none (by omega)]
      refine g_iload2 dX7_isTrialOrder_2 (g_aload0 dX7_isTrialOrder_3 (g_get fl_X7_10 0 rfl rfl dX7_isTrialOrder_4 (g_get fl_X7_110 1 rfl rfl dX7_isTrialOrder_7 (g_icmp_ge (tgt := 36) dX7_isTrialOrder_10 (by decide) (fun h10 => g_iconst ki_1 dX7_isTrialOrder_36 (g_zret rfl (by first | exact g_bi01 _ | exact Or.inl rfl | exact Or.inr rfl) dX7_isTrialOrder_37 (Nat.le_of_ble_eq_true rfl) (Nat.le_of_ble_eq_true rfl) ?q37)) (fun h10 => ?s13)))))
      case s13 => omega
      case q37 => exact hQ _ _ ⟨by rw [g_bi1 hOG], rfl⟩
    | succ u ih =>
      intro p hp hall
      have ep := t_nI (n := p) (by omega)
      have go := getD_at (l := O) (i := p) (by omega)
      have gg := getD_at (l := Gl) (i := p) (by omega)
      have bo := hob _ (List.mem_of_getElem? go)
      have bg := hgb _ (List.mem_of_getElem? gg)
      have q1 := hLO.at go
      have q2 := hLG.at gg
      have eo := t_nI (n := O.getD p 0) (by omega)
      have eg := t_nI (n := Gl.getD p 0) (by omega)
      refine g_iload2 dX7_isTrialOrder_2 (g_aload0 dX7_isTrialOrder_3 (g_get fl_X7_10 0 rfl rfl dX7_isTrialOrder_4 (g_get fl_X7_110 1 rfl rfl dX7_isTrialOrder_7 (g_icmp_ge (tgt := 36) dX7_isTrialOrder_10 (by decide) (fun h10 => ?s36_2) (fun h10 => g_aload0 dX7_isTrialOrder_13 (g_get fl_X7_69 0 rfl rfl dX7_isTrialOrder_14 (g_iload2 dX7_isTrialOrder_17 (g_iaload 4 rfl dX7_isTrialOrder_18 ?b18_2 (g_aload1 dX7_isTrialOrder_19 (g_get fl_X7_219 2 rfl rfl dX7_isTrialOrder_20 (g_iload2 dX7_isTrialOrder_23 (g_iaload 3 rfl dX7_isTrialOrder_24 ?b24_2 (g_icmp_eq (tgt := 30) dX7_isTrialOrder_25 (by decide) (fun h25 => g_iinc2 ki_1 dX7_isTrialOrder_30 rfl rfl (g_goto (tgt := 2) dX7_isTrialOrder_33 (by decide) (?s2_2))) (fun h25 => g_iconst ki_0 dX7_isTrialOrder_28 (g_zret rfl (by first | exact g_bi01 _ | exact Or.inl rfl | exact Or.inr rfl) dX7_isTrialOrder_29 (Nat.le_of_ble_eq_true rfl) (Nat.le_of_ble_eq_true rfl) ?q29_2)))))))))))))))
      case s36_2 => omega
      case b18_2 => exact ⟨by omega, by show _ < (6 : Int); omega⟩
      case b24_2 => exact ⟨by omega, by show _ < (40 : Int); omega⟩
      all_goals rw [ep, Int.toNat_natCast, q1, q2, eo, eg] at h25
      case s2_2 =>
        rw [nI_1]
        refine ih (p + 1) (by omega) ?_
        intro j hj
        by_cases hjp : j = p
        · rw [hjp]; omega
        · exact hall j (by omega)
      case q29_2 => exact hQ _ _ ⟨by rw [g_bi0 (fun q => h25 (by rw [q]))], rfl⟩
  refine g_iconst ki_0 dX7_isTrialOrder_0 (g_istore2 dX7_isTrialOrder_1 rfl rfl (?s2_3))
  exact loop n 0 (by omega) (fun j hj => absurd hj (Nat.not_lt_zero j))
set_option maxRecDepth 20000 in
set_option maxHeartbeats 200000 in
theorem e_wouldMeet (hN : g_N E) {x : Nat} {P : List Nat} (hx : x < 6) (hP : Lst P tp) (hl : P.length ≤ 4) (hb : ∀ y ∈ P, y < 6) : g_Ci E mX7_wouldMeetItsPlace (d + 2) [.ref (a 0), .int (nI x), .int (nI P.length)] (seW E a im tc (nI n) rr k it so m to tp) (fun z w' => z = g_bi (wmF P x P.length = true) ∧ w' = seW E a im tc (nI n) rr k it so m to tp) := by
  have ex := t_nI (n := x) (by omega)
  have el := t_nI (n := P.length) (by omega)
  refine g_enterI hN.1 (by decide) [some (.ref (a 0)), some (.int (nI x)), some (.int (nI P.length)), none] rfl (Nat.le_of_ble_eq_true rfl) (fun A Q hQ => ?_)
  have tcm1 := tc_m1; have tc0 := tc_0; have tc1 := tc_1; have tc2 := tc_2; have tc4 := tc_4
  have loop : ∀ (u : Nat), u ≤ P.length → (∀ _ : Unit, wmF P x P.length = wmF P x u) → G E mX7_wouldMeetItsPlace (d + 2) 0 0 A Q 0 0 8 [some (.ref (a 0)), some (.int (nI x)), some (.int (nI P.length)), some (.int (nI u - 1))] [] (seW E a im tc (nI n) rr k it so m to tp) := by
    intro u
    induction u with
    | zero =>
      intro ht he
      have e1 : (nI 0 - 1).toInt = -1 := by decide
      refine g_iload3 dX7_wouldMeetItsPlace_8 (g_if_lt (tgt := 49) dX7_wouldMeetItsPlace_9 (by decide) (fun h9 => g_iconst ki_0 dX7_wouldMeetItsPlace_49 (g_zret rfl (by first | exact g_bi01 _ | exact Or.inl rfl | exact Or.inr rfl) dX7_wouldMeetItsPlace_50 (Nat.le_of_ble_eq_true rfl) (Nat.le_of_ble_eq_true rfl) ?q50)) (fun h9 => ?s12))
      case s12 => omega
      case q50 => exact hQ _ _ ⟨by rw [he (), g_bi0 (by simp [wmF])], rfl⟩
    | succ u ih =>
      intro ht he
      have g := getD_at (l := P) (i := u) (by omega)
      have gb := hb _ (List.mem_of_getElem? g)
      have q1 := hP.at g
      have heP : ∀ _ : Unit, absN (P.getD u 0) x < 2 → wmF P x P.length = (P.getD u 0 == x) := fun _ h => by rw [he (), wmF, if_pos h]
      have heN : ∀ _ : Unit, ¬ absN (P.getD u 0) x < 2 → wmF P x P.length = wmF P x u := fun _ h => by rw [he (), wmF, if_neg h]
      clear he g
      generalize P.getD u 0 = y at *
      have ey := t_nI (n := y) (by omega)
      have e1 : nI (u + 1) - 1 = nI u := nI_pred u
      have e2 := t_nI (n := u) (by omega)
      have e4 : (nI y - nI x).toInt = (y : Int) - x := by rw [t_sub (by omega) (by omega), ey, ex]
      have e5 := t_abs (x := nI y - nI x) (by omega)
      rw [e4] at e5
      rw [e1]
      refine g_iload3 dX7_wouldMeetItsPlace_8 (g_if_lt (tgt := 49) dX7_wouldMeetItsPlace_9 (by decide) (fun h9 => ?s49_2) (fun h9 => g_aload0 dX7_wouldMeetItsPlace_12 (g_get fl_X7_72 0 rfl rfl dX7_wouldMeetItsPlace_13 (g_iload3 dX7_wouldMeetItsPlace_16 (g_iaload 5 rfl dX7_wouldMeetItsPlace_17 ?b17_2 (g_iload1 dX7_wouldMeetItsPlace_18 (g_isub dX7_wouldMeetItsPlace_19 (g_mabs wm_X7_306 dX7_wouldMeetItsPlace_20 (Nat.le_of_ble_eq_true rfl) (Nat.le_of_ble_eq_true rfl) rfl (g_iconst ki_2 dX7_wouldMeetItsPlace_23 (g_icmp_ge (tgt := 43) dX7_wouldMeetItsPlace_24 (by decide) (fun h24 => g_iinc3 ki_m1 dX7_wouldMeetItsPlace_43 rfl rfl (g_goto (tgt := 8) dX7_wouldMeetItsPlace_46 (by decide) (?s8_2))) (fun h24 => g_aload0 dX7_wouldMeetItsPlace_27 (g_get fl_X7_72 0 rfl rfl dX7_wouldMeetItsPlace_28 (g_iload3 dX7_wouldMeetItsPlace_31 (g_iaload 5 rfl dX7_wouldMeetItsPlace_32 ?b32_2 (g_iload1 dX7_wouldMeetItsPlace_33 (g_icmp_ne (tgt := 41) dX7_wouldMeetItsPlace_34 (by decide) (fun h34 => g_iconst ki_0 dX7_wouldMeetItsPlace_41 (g_zret rfl (by first | exact g_bi01 _ | exact Or.inl rfl | exact Or.inr rfl) dX7_wouldMeetItsPlace_42 (Nat.le_of_ble_eq_true rfl) (Nat.le_of_ble_eq_true rfl) ?q42_2)) (fun h34 => g_iconst ki_1 dX7_wouldMeetItsPlace_37 (g_goto (tgt := 42) dX7_wouldMeetItsPlace_38 (by decide) (g_zret rfl (by first | exact g_bi01 _ | exact Or.inl rfl | exact Or.inr rfl) dX7_wouldMeetItsPlace_42 (Nat.le_of_ble_eq_true rfl) (Nat.le_of_ble_eq_true rfl) ?q42_2')))))))))))))))))))
      case s49_2 => omega
      case b17_2 => exact ⟨by omega, by show _ < (4 : Int); omega⟩
      case b32_2 => exact ⟨by omega, by show _ < (4 : Int); omega⟩
      all_goals rw [e2, Int.toNat_natCast, q1, e5] at h24
      case s8_2 =>
        rw [show nI u + -1 = nI u - 1 by rw [Int32.sub_eq_add_neg]]
        exact ih (by omega) (fun _ => heN () (by unfold absN; split <;> omega))
      all_goals rw [e2, Int.toNat_natCast, q1, ey, ex] at h34
      case q42_2 => exact hQ _ _ ⟨by rw [heP () (by unfold absN; split <;> omega), g_bi0 (by rw [beq_iff_eq]; omega)], rfl⟩
      case q42_2' => exact hQ _ _ ⟨by rw [heP () (by unfold absN; split <;> omega), g_bi1 (by rw [beq_iff_eq]; omega)], rfl⟩
  refine g_iload2 dX7_wouldMeetItsPlace_0 (g_iconst ki_4 dX7_wouldMeetItsPlace_1 (g_mmin wm_X7_184 dX7_wouldMeetItsPlace_2 (Nat.le_of_ble_eq_true rfl) (Nat.le_of_ble_eq_true rfl) rfl (g_iconst ki_1 dX7_wouldMeetItsPlace_5 (g_isub dX7_wouldMeetItsPlace_6 (g_istore3 dX7_wouldMeetItsPlace_7 rfl rfl (?s8_3))))))
  have hm : (if (4 : Int32) < nI P.length then 4 else nI P.length) = nI P.length := by
    rw [if_neg]
    intro q
    have := Int32.lt_iff_toInt_lt.mp q
    rw [el, tc_4] at this
    omega
  rw [hm]
  exact loop P.length (Nat.le_refl _) (fun _ => rfl)
end S9a
