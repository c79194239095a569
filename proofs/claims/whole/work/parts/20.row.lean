/-! the rows of crossings -/
abbrev Cr : Type := Nat × Nat × Nat × Nat × Nat
def crB (c : Cr) : Prop := c.1 < 1000 ∧ c.2.1 < 1000 ∧ c.2.2.1 < 1000 ∧ c.2.2.2.1 < 1000 ∧ c.2.2.2.2 < 1000
abbrev ia (E : GE) (n : Nat) (f : Nat → Int32) : va_E := .inl (E.2.2.1 0, n, .inl f)
abbrev rowW (E : GE) (a : Nat → Nat) (k : Nat) (pl ov on ot be : Nat → Int32) (n : Int32) : va_W := [(a k, .inr (3, [.ref (a (k + 1)), .ref (a (k + 2)), .ref (a (k + 3)), .ref (a (k + 4)), .ref (a (k + 5)), .int n])), (a (k + 1), ia E 40 pl), (a (k + 2), ia E 40 ov), (a (k + 3), ia E 40 on), (a (k + 4), ia E 40 ot), (a (k + 5), ia E 40 be)]
def rowE (c : Cr) (pl ov on ot be : Int32) : Prop := crB c ∧ pl = nI c.1 ∧ ov = nI c.2.1 ∧ on = nI c.2.2.1 ∧ ot = nI c.2.2.2.1 ∧ be = nI c.2.2.2.2
def Row (E : GE) (a : Nat → Nat) (k : Nat) (L : List Cr) (w : va_W) : Prop := L.length ≤ 40 ∧ ∃ pl ov on ot be, w = rowW E a k pl ov on ot be (nI L.length) ∧ ∀ (i : Nat) (c : Cr), L[i]? = some c → rowE c (pl i) (ov i) (on i) (ot i) (be i)
theorem Row.mk {E : GE} {a : Nat → Nat} {k : Nat} {L : List Cr} {w : va_W} {pl ov on ot be : Nat → Int32} {n : Int32} (hw : w = rowW E a k pl ov on ot be n) (hn : n = nI L.length) (hl : L.length ≤ 40) (h : ∀ (i : Nat) (c : Cr), L[i]? = some c → rowE c (pl i) (ov i) (on i) (ot i) (be i)) : Row E a k L w := ⟨hl, pl, ov, on, ot, be, by rw [hw, hn], h⟩
def near (p q : Nat) : Bool := decide (p < q + 2 ∧ q < p + 2)
/-- the last of the first j that is near -/
def lnear (L : List Cr) (p : Nat) : Nat → Option Nat
  | 0 => none
  | j + 1 => match L[j]? with
    | some c => if near c.1 p then some j else lnear L p j
    | none => lnear L p j
def lnI (o : Option Nat) : Int32 := match o with
  | none => -1
  | some j => nI j
section S20
variable {E : GE} {d : Nat} {a : Nat → Nat} {k : Nat} {L : List Cr} {w : va_W}
set_option maxRecDepth 20000 in
set_option maxHeartbeats 1000000 in
theorem c_lastNear (hN : g_N E) (hw : Row E a k L w) {p : Nat} (hp : p < 1000) : g_Ci E mX3_lastNear (d + 1) [.ref (a k), .int (nI p)] w (fun r w' => r = lnI (lnear L p L.length) ∧ w' = w) := by
  obtain ⟨hn, pl, ov, on, ot, be, rfl, hL⟩ := hw
  refine g_enterI hN.1 (by decide) [some (.ref (a k)), some (.int (nI p)), none] rfl (Nat.le_of_ble_eq_true rfl) (fun A Q hQ => ?_)
  have tcm1 := tc_m1; have tc1 := tc_1; have tc2 := tc_2
  have loop : ∀ j, j ≤ L.length → lnear L p L.length = lnear L p j → G E mX3_lastNear (d + 1) 0 0 A Q 0 0 7 [some (.ref (a k)), some (.int (nI p)), some (.int (nI j - 1))] [] (rowW E a k pl ov on ot be (nI L.length)) := by
    intro j
    induction j with
    | zero =>
      intro _ he
      have e1 : (nI 0 - 1).toInt = -1 := by decide
      refine g_iload2 dX3_lastNear_7 (g_if_lt (tgt := 34) dX3_lastNear_8 (by decide) (fun h8 => g_iconst ki_m1 dX3_lastNear_34 (g_iret rfl dX3_lastNear_35 (Nat.le_of_ble_eq_true rfl) (Nat.le_of_ble_eq_true rfl) ?q35)) (fun h8 => ?s11))
      case q35 => exact hQ _ _ ⟨by rw [he]; rfl, rfl⟩
      case s11 => exact absurd (by omega) h8
    | succ j ih =>
      intro hj he
      have e1 : (nI (j + 1) - 1) = nI j := nI_pred j
      have e2 := t_nI (n := j) (by omega)
      rw [e1]
      obtain ⟨c, hc⟩ : ∃ c, L[j]? = some c := ⟨L[j], List.getElem?_eq_getElem (by omega)⟩
      have e3 := hL j c hc
      have b1 := e3.1.1
      have e4 : (nI c.1 - nI p).toInt = (c.1 : Int) - p := by
        have q1 := t_nI (n := c.1) (by omega)
        have q2 := t_nI (n := p) (by omega)
        rw [t_sub (by omega) (by omega), q1, q2]
      have e5 := t_abs (x := nI c.1 - nI p) (by omega)
      rw [e4] at e5
      refine g_iload2 dX3_lastNear_7 (g_if_lt (tgt := 34) dX3_lastNear_8 (by decide) (fun h8 => g_iconst ki_m1 dX3_lastNear_34 (g_iret rfl dX3_lastNear_35 (Nat.le_of_ble_eq_true rfl) (Nat.le_of_ble_eq_true rfl) ?q35_2)) (fun h8 => g_aload0 dX3_lastNear_11 (g_get fl_X3_9 0 rfl rfl dX3_lastNear_12 (g_iload2 dX3_lastNear_15 (g_iaload 1 rfl dX3_lastNear_16 ?b16_2 (g_iload1 dX3_lastNear_17 (g_isub dX3_lastNear_18 (g_mabs wm_X3_43 dX3_lastNear_19 (Nat.le_of_ble_eq_true rfl) (Nat.le_of_ble_eq_true rfl) rfl (g_iconst ki_2 dX3_lastNear_22 (g_icmp_ge (tgt := 28) dX3_lastNear_23 (by decide) (fun h23 => g_iinc2 ki_m1 dX3_lastNear_28 rfl rfl (g_goto (tgt := 7) dX3_lastNear_31 (by decide) (?s7_2))) (fun h23 => g_iload2 dX3_lastNear_26 (g_iret rfl dX3_lastNear_27 (Nat.le_of_ble_eq_true rfl) (Nat.le_of_ble_eq_true rfl) ?q27_2))))))))))))
      case q35_2 => omega
      case b16_2 => omega
      all_goals rw [e2, Int.toNat_natCast, e3.2.1] at h23
      all_goals rw [e5] at h23
      case q27_2 =>
        refine hQ _ _ ⟨?_, rfl⟩
        rw [he, lnear, hc]
        have hnr : near c.1 p = true := decide_eq_true (by omega)
        simp only [hnr, if_true, lnI]
      case s7_2 =>
        have hnr : near c.1 p = false := decide_eq_false (by omega)
        have e6 : nI j + -1 = nI j - 1 := by rw [Int32.sub_eq_add_neg]
        rw [e6]
        refine ih (by omega) ?_
        rw [he, lnear, hc]
        simp only [hnr]
        rfl
  refine g_aload0 dX3_lastNear_0 (g_get fl_X3_27 0 rfl rfl dX3_lastNear_1 (g_iconst ki_1 dX3_lastNear_4 (g_isub dX3_lastNear_5 (g_istore2 dX3_lastNear_6 rfl rfl (?s7_3)))))
  exact loop L.length (Nat.le_refl _) rfl
theorem upd_s {f : Nat → Int32} {i : Nat} {x : Int32} : upd f i x i = x := pk_us
theorem upd_o {f : Nat → Int32} {i j : Nat} {x : Int32} (h : j ≠ i) : upd f i x j = f j := pk_un h
set_option maxRecDepth 20000 in
set_option maxHeartbeats 1000000 in
theorem c_put (hN : g_N E) (hw : Row E a k L w) (hl : L.length < 40) {c : Cr} (hc : crB c) : g_Cv E mX3_put (d + 1) [.ref (a k), .int (nI c.1), .int (nI c.2.1), .int (nI c.2.2.1), .int (nI c.2.2.2.1), .int (nI c.2.2.2.2)] w (fun w' => Row E a k (L ++ [c]) w') := by
  obtain ⟨hn, pl, ov, on, ot, be, rfl, hL⟩ := hw
  refine g_enterV hN.1 (by decide) [some (.ref (a k)), some (.int (nI c.1)), some (.int (nI c.2.1)), some (.int (nI c.2.2.1)), some (.int (nI c.2.2.2.1)), some (.int (nI c.2.2.2.2))] rfl (Nat.le_of_ble_eq_true rfl) (fun A Q hQ => ?_)
  have tc1 := tc_1; have tc40 := tc_40
  have e1 := t_nI (n := L.length) (by omega)
  refine g_aload0 dX3_put_0 (g_get fl_X3_27 0 rfl rfl dX3_put_1 (g_bipush kb_40 dX3_put_4 (g_icmp_lt (tgt := 10) dX3_put_6 (by decide) (fun h6 => g_aload0 dX3_put_10 (g_get fl_X3_9 0 rfl rfl dX3_put_11 (g_aload0 dX3_put_14 (g_get fl_X3_27 0 rfl rfl dX3_put_15 (g_iload1 dX3_put_18 (g_iastore 1 rfl dX3_put_19 ?b19 (g_aload0 dX3_put_20 (g_get fl_X3_15 0 rfl rfl dX3_put_21 (g_aload0 dX3_put_24 (g_get fl_X3_27 0 rfl rfl dX3_put_25 (g_iload2 dX3_put_28 (g_iastore 2 rfl dX3_put_29 ?b29 (g_aload0 dX3_put_30 (g_get fl_X3_18 0 rfl rfl dX3_put_31 (g_aload0 dX3_put_34 (g_get fl_X3_27 0 rfl rfl dX3_put_35 (g_iload3 dX3_put_38 (g_iastore 3 rfl dX3_put_39 ?b39 (g_aload0 dX3_put_40 (g_get fl_X3_21 0 rfl rfl dX3_put_41 (g_aload0 dX3_put_44 (g_get fl_X3_27 0 rfl rfl dX3_put_45 (g_iload4 dX3_put_48 (g_iastore 4 rfl dX3_put_50 ?b50 (g_aload0 dX3_put_51 (g_get fl_X3_24 0 rfl rfl dX3_put_52 (g_aload0 dX3_put_55 (g_get fl_X3_27 0 rfl rfl dX3_put_56 (g_iload5 dX3_put_59 (g_iastore 5 rfl dX3_put_61 ?b61 (g_aload0 dX3_put_62 (g_dup dX3_put_63 rfl (g_get fl_X3_27 0 rfl rfl dX3_put_64 (g_iconst ki_1 dX3_put_67 (g_iadd dX3_put_68 (g_put fl_X3_27 fp_3_5 0 rfl rfl rfl (Nat.le_of_ble_eq_true rfl) dX3_put_69 (g_vret rfl dX3_put_72 (Nat.le_of_ble_eq_true rfl) (Nat.le_of_ble_eq_true rfl) ?q72))))))))))))))))))))))))))))))))))))) (fun h6 => g_vret rfl dX3_put_9 (Nat.le_of_ble_eq_true rfl) (Nat.le_of_ble_eq_true rfl) ?q9))))
  case q9 => omega
  case q72 =>
    refine hQ _ (Row.mk rfl ?_ ?_ ?_)
    · rw [List.length_append]; exact nI_1 _
    · rw [List.length_append]; show L.length + 1 ≤ 40; omega
    · intro i c' hi
      rw [e1, Int.toNat_natCast]
      by_cases hil : i < L.length
      · rw [List.getElem?_append_left hil] at hi
        simp only [upd_o (Nat.ne_of_lt hil)]
        exact hL i c' hi
      · have hlt := (List.getElem?_eq_some_iff.mp hi).1
        rw [List.length_append] at hlt
        have : i = L.length := by simp only [List.length_singleton] at hlt; omega
        subst this
        rw [List.getElem?_append_right (Nat.le_refl _), Nat.sub_self] at hi
        cases hi
        simp only [upd_s]
        exact ⟨hc, rfl, rfl, rfl, rfl, rfl⟩
  all_goals omega
set_option maxRecDepth 20000 in
set_option maxHeartbeats 1000000 in
/-- takeOver, of its own row -/
theorem c_takeOver1 (hN : g_N E) {pl ov on ot be : Nat → Int32} {n i j : Int32} (hi : 0 ≤ i.toInt ∧ i.toInt < 40) (hj : 0 ≤ j.toInt ∧ j.toInt < 40) : g_Cv E mX3_takeOver (d + 1) [.ref (a k), .int i, .ref (a k), .int j] (rowW E a k pl ov on ot be n) (fun w' => w' = rowW E a k (upd pl i.toInt.toNat (pl j.toInt.toNat)) (upd ov i.toInt.toNat (ov j.toInt.toNat)) (upd on i.toInt.toNat (on j.toInt.toNat)) (upd ot i.toInt.toNat (ot j.toInt.toNat)) (upd be i.toInt.toNat (be j.toInt.toNat)) n) := by
  refine g_enterV hN.1 (by decide) [some (.ref (a k)), some (.int i), some (.ref (a k)), some (.int j)] rfl (Nat.le_of_ble_eq_true rfl) (fun A Q hQ => ?_)
  skip
  refine g_aload0 dX3_takeOver_0 (g_get fl_X3_9 0 rfl rfl dX3_takeOver_1 (g_iload1 dX3_takeOver_4 (g_aload2 dX3_takeOver_5 (g_get fl_X3_9 0 rfl rfl dX3_takeOver_6 (g_iload3 dX3_takeOver_9 (g_iaload 1 rfl dX3_takeOver_10 ?b10 (g_iastore 1 rfl dX3_takeOver_11 ?b11 (g_aload0 dX3_takeOver_12 (g_get fl_X3_15 0 rfl rfl dX3_takeOver_13 (g_iload1 dX3_takeOver_16 (g_aload2 dX3_takeOver_17 (g_get fl_X3_15 0 rfl rfl dX3_takeOver_18 (g_iload3 dX3_takeOver_21 (g_iaload 2 rfl dX3_takeOver_22 ?b22 (g_iastore 2 rfl dX3_takeOver_23 ?b23 (g_aload0 dX3_takeOver_24 (g_get fl_X3_18 0 rfl rfl dX3_takeOver_25 (g_iload1 dX3_takeOver_28 (g_aload2 dX3_takeOver_29 (g_get fl_X3_18 0 rfl rfl dX3_takeOver_30 (g_iload3 dX3_takeOver_33 (g_iaload 3 rfl dX3_takeOver_34 ?b34 (g_iastore 3 rfl dX3_takeOver_35 ?b35 (g_aload0 dX3_takeOver_36 (g_get fl_X3_21 0 rfl rfl dX3_takeOver_37 (g_iload1 dX3_takeOver_40 (g_aload2 dX3_takeOver_41 (g_get fl_X3_21 0 rfl rfl dX3_takeOver_42 (g_iload3 dX3_takeOver_45 (g_iaload 4 rfl dX3_takeOver_46 ?b46 (g_iastore 4 rfl dX3_takeOver_47 ?b47 (g_aload0 dX3_takeOver_48 (g_get fl_X3_24 0 rfl rfl dX3_takeOver_49 (g_iload1 dX3_takeOver_52 (g_aload2 dX3_takeOver_53 (g_get fl_X3_24 0 rfl rfl dX3_takeOver_54 (g_iload3 dX3_takeOver_57 (g_iaload 5 rfl dX3_takeOver_58 ?b58 (g_iastore 5 rfl dX3_takeOver_59 ?b59 (g_vret rfl dX3_takeOver_60 (Nat.le_of_ble_eq_true rfl) (Nat.le_of_ble_eq_true rfl) ?q60))))))))))))))))))))))))))))))))))))))))
  case q60 => exact hQ _ rfl
  all_goals omega
set_option maxRecDepth 20000 in
set_option maxHeartbeats 1000000 in
/-- takeOver, of another row -/
theorem c_takeOver2 (hN : g_N E) {b : Nat → Nat} {k2 : Nat} {pl ov on ot be pl2 ov2 on2 ot2 be2 : Nat → Int32} {n n2 i j : Int32} (hi : 0 ≤ i.toInt ∧ i.toInt < 40) (hj : 0 ≤ j.toInt ∧ j.toInt < 40) : g_Cv E mX3_takeOver (d + 1) [.ref (a k), .int i, .ref (b k2), .int j] (rowW E a k pl ov on ot be n ++ rowW E b k2 pl2 ov2 on2 ot2 be2 n2) (fun w' => w' = rowW E a k (upd pl i.toInt.toNat (pl2 j.toInt.toNat)) (upd ov i.toInt.toNat (ov2 j.toInt.toNat)) (upd on i.toInt.toNat (on2 j.toInt.toNat)) (upd ot i.toInt.toNat (ot2 j.toInt.toNat)) (upd be i.toInt.toNat (be2 j.toInt.toNat)) n ++ rowW E b k2 pl2 ov2 on2 ot2 be2 n2) := by
  refine g_enterV hN.1 (by decide) [some (.ref (a k)), some (.int i), some (.ref (b k2)), some (.int j)] rfl (Nat.le_of_ble_eq_true rfl) (fun A Q hQ => ?_)
  skip
  refine g_aload0 dX3_takeOver_0 (g_get fl_X3_9 0 rfl rfl dX3_takeOver_1 (g_iload1 dX3_takeOver_4 (g_aload2 dX3_takeOver_5 (g_get fl_X3_9 6 rfl rfl dX3_takeOver_6 (g_iload3 dX3_takeOver_9 (g_iaload 7 rfl dX3_takeOver_10 ?b10 (g_iastore 1 rfl dX3_takeOver_11 ?b11 (g_aload0 dX3_takeOver_12 (g_get fl_X3_15 0 rfl rfl dX3_takeOver_13 (g_iload1 dX3_takeOver_16 (g_aload2 dX3_takeOver_17 (g_get fl_X3_15 6 rfl rfl dX3_takeOver_18 (g_iload3 dX3_takeOver_21 (g_iaload 8 rfl dX3_takeOver_22 ?b22 (g_iastore 2 rfl dX3_takeOver_23 ?b23 (g_aload0 dX3_takeOver_24 (g_get fl_X3_18 0 rfl rfl dX3_takeOver_25 (g_iload1 dX3_takeOver_28 (g_aload2 dX3_takeOver_29 (g_get fl_X3_18 6 rfl rfl dX3_takeOver_30 (g_iload3 dX3_takeOver_33 (g_iaload 9 rfl dX3_takeOver_34 ?b34 (g_iastore 3 rfl dX3_takeOver_35 ?b35 (g_aload0 dX3_takeOver_36 (g_get fl_X3_21 0 rfl rfl dX3_takeOver_37 (g_iload1 dX3_takeOver_40 (g_aload2 dX3_takeOver_41 (g_get fl_X3_21 6 rfl rfl dX3_takeOver_42 (g_iload3 dX3_takeOver_45 (g_iaload 10 rfl dX3_takeOver_46 ?b46 (g_iastore 4 rfl dX3_takeOver_47 ?b47 (g_aload0 dX3_takeOver_48 (g_get fl_X3_24 0 rfl rfl dX3_takeOver_49 (g_iload1 dX3_takeOver_52 (g_aload2 dX3_takeOver_53 (g_get fl_X3_24 6 rfl rfl dX3_takeOver_54 (g_iload3 dX3_takeOver_57 (g_iaload 11 rfl dX3_takeOver_58 ?b58 (g_iastore 5 rfl dX3_takeOver_59 ?b59 (g_vret rfl dX3_takeOver_60 (Nat.le_of_ble_eq_true rfl) (Nat.le_of_ble_eq_true rfl) ?q60))))))))))))))))))))))))))))))))))))))))
  case q60 => exact hQ _ rfl
  all_goals omega
/-- the places from g to i moved up by one -/
def shf (f : Nat → Int32) (g i : Nat) : Nat → Int32 := fun m => if g ≤ m ∧ m < i then f (m + 1) else f m
theorem shf_0 (f : Nat → Int32) (g : Nat) : shf f g g = f := by
  funext m; unfold shf; rw [if_neg (by omega)]
theorem shf_s (f : Nat → Int32) {g i : Nat} (h : g ≤ i) : upd (shf f g i) i (shf f g i (i + 1)) = shf f g (i + 1) := by
  funext m
  by_cases hm : m = i
  · subst hm; rw [upd_s]; unfold shf; rw [if_neg (by omega), if_pos (by omega)]
  · rw [upd_o hm]; unfold shf
    by_cases h1 : g ≤ m ∧ m < i
    · rw [if_pos h1, if_pos (by omega)]
    · rw [if_neg h1, if_neg (by omega)]
set_option maxRecDepth 20000 in
set_option maxHeartbeats 1000000 in
theorem c_remove (hN : g_N E) (hw : Row E a k L w) {g : Nat} (hg : g < L.length) : g_Cv E mX3_remove (d + 2) [.ref (a k), .int (nI g)] w (fun w' => Row E a k (L.eraseIdx g) w') := by
  obtain ⟨hn, pl, ov, on, ot, be, rfl, hL⟩ := hw
  refine g_enterV hN.1 (by decide) [some (.ref (a k)), some (.int (nI g)), none] rfl (Nat.le_of_ble_eq_true rfl) (fun A Q hQ => ?_)
  have tc1 := tc_1
  have e1 := t_nI (n := L.length) (by omega)
  have loop : ∀ t i, i + t + 1 = L.length → g ≤ i → G E mX3_remove (d + 2) 0 0 A Q 0 0 2 [some (.ref (a k)), some (.int (nI g)), some (.int (nI i))] [] (rowW E a k (shf pl g i) (shf ov g i) (shf on g i) (shf ot g i) (shf be g i) (nI L.length)) := by
    intro t
    induction t with
    | zero =>
      intro i hi hgi
      have e2 : (nI i + 1).toInt = (L.length : Int) := by rw [nI_1, t_nI (by omega)]; omega
      refine g_iload2 dX3_remove_2 (g_iconst ki_1 dX3_remove_3 (g_iadd dX3_remove_4 (g_aload0 dX3_remove_5 (g_get fl_X3_27 0 rfl rfl dX3_remove_6 (g_icmp_ge (tgt := 27) dX3_remove_9 (by decide) (fun h9 => g_aload0 dX3_remove_27 (g_dup dX3_remove_28 rfl (g_get fl_X3_27 0 rfl rfl dX3_remove_29 (g_iconst ki_1 dX3_remove_32 (g_isub dX3_remove_33 (g_put fl_X3_27 fp_3_5 0 rfl rfl rfl (Nat.le_of_ble_eq_true rfl) dX3_remove_34 (g_vret rfl dX3_remove_37 (Nat.le_of_ble_eq_true rfl) (Nat.le_of_ble_eq_true rfl) ?q37))))))) (fun h9 => ?s12))))))
      case s12 => omega
      case q37 =>
        have hlen : (L.eraseIdx g).length = i := by rw [List.length_eraseIdx, if_pos hg]; omega
        refine hQ _ (Row.mk rfl ?_ (by omega) ?_)
        · rw [hlen, ← hi, Nat.add_zero, nI_pred]
        · intro m c hm
          rw [List.getElem?_eraseIdx] at hm
          by_cases h1 : m < g
          · rw [if_pos h1] at hm
            simp only [shf, if_neg (show ¬ (g ≤ m ∧ m < i) by omega)]
            exact hL m c hm
          · rw [if_neg h1] at hm
            have := (List.getElem?_eq_some_iff.mp hm).1
            simp only [shf, if_pos (show g ≤ m ∧ m < i by omega)]
            exact hL (m + 1) c hm
    | succ t ih =>
      intro i hi hgi
      have e2 : (nI i + 1).toInt = (i : Int) + 1 := by rw [nI_1, t_nI (by omega)]; omega
      have e3 := t_nI (n := i) (by omega)
      refine g_iload2 dX3_remove_2 (g_iconst ki_1 dX3_remove_3 (g_iadd dX3_remove_4 (g_aload0 dX3_remove_5 (g_get fl_X3_27 0 rfl rfl dX3_remove_6 (g_icmp_ge (tgt := 27) dX3_remove_9 (by decide) (fun h9 => ?s27_2) (fun h9 => g_aload0 dX3_remove_12 (g_iload2 dX3_remove_13 (g_aload0 dX3_remove_14 (g_iload2 dX3_remove_15 (g_iconst ki_1 dX3_remove_16 (g_iadd dX3_remove_17 (?c18_2))))))))))))
      case s27_2 => omega
      case c18_2 =>
        refine g_V3v dX3_remove_18 mv_X3_48 0 rfl rfl rfl (Nat.le_of_ble_eq_true rfl) (Nat.le_of_ble_eq_true rfl) (c_takeOver1 hN (by omega) (by omega)) (fun w1 hq => ?_)
        subst hq
        rw [e2, e3]
        rw [show ((i : Int) + 1).toNat = i + 1 by omega, Int.toNat_natCast, shf_s pl hgi, shf_s ov hgi, shf_s on hgi, shf_s ot hgi, shf_s be hgi]
        refine g_iinc2 ki_1 dX3_remove_21 rfl rfl (g_goto (tgt := 2) dX3_remove_24 (by decide) (?s2_3))
        rw [nI_1]
        exact ih (i + 1) (by omega) (by omega)
  refine g_iload1 dX3_remove_0 (g_istore2 dX3_remove_1 rfl rfl (?s2_4))
  have := loop (L.length - 1 - g) g (by omega) (Nat.le_refl _)
  simp only [shf_0] at this
  exact this
def cpf (f f2 : Nat → Int32) (i : Nat) : Nat → Int32 := fun m => if m < i then f2 m else f m
theorem cpf_0 (f f2 : Nat → Int32) : cpf f f2 0 = f := by
  funext m; unfold cpf; rw [if_neg (by omega)]
theorem cpf_s (f f2 : Nat → Int32) (i : Nat) : upd (cpf f f2 i) i (f2 i) = cpf f f2 (i + 1) := by
  funext m
  by_cases hm : m = i
  · subst hm; rw [upd_s]; unfold cpf; rw [if_pos (by omega)]
  · rw [upd_o hm]; unfold cpf
    by_cases h1 : m < i
    · rw [if_pos h1, if_pos (by omega)]
    · rw [if_neg h1, if_neg (by omega)]
set_option maxRecDepth 20000 in
set_option maxHeartbeats 1000000 in
theorem c_rowBecome (hN : g_N E) {b : Nat → Nat} {k2 : Nat} {L2 : List Cr} {w2 : va_W} (hw : Row E a k L w) (hw2 : Row E b k2 L2 w2) : g_Cv E mX3_become (d + 2) [.ref (a k), .ref (b k2)] (w ++ w2) (fun w' => ∃ w1, Row E a k L2 w1 ∧ w' = w1 ++ w2) := by
  obtain ⟨hn, pl, ov, on, ot, be, rfl, hL⟩ := hw
  obtain ⟨hn2, pl2, ov2, on2, ot2, be2, rfl, hL2⟩ := hw2
  refine g_enterV hN.1 (by decide) [some (.ref (a k)), some (.ref (b k2)), none] rfl (Nat.le_of_ble_eq_true rfl) (fun A Q hQ => ?_)
  have tc0 := tc_0; have tc1 := tc_1
  have e1 := t_nI (n := L2.length) (by omega)
  have loop : ∀ t i, i + t = L2.length → G E mX3_become (d + 2) 0 0 A Q 0 0 10 [some (.ref (a k)), some (.ref (b k2)), some (.int (nI i))] [] (rowW E a k (cpf pl pl2 i) (cpf ov ov2 i) (cpf on on2 i) (cpf ot ot2 i) (cpf be be2 i) (nI L2.length) ++ rowW E b k2 pl2 ov2 on2 ot2 be2 (nI L2.length)) := by
    intro t
    induction t with
    | zero =>
      intro i hi
      have e2 := t_nI (n := i) (by omega)
      refine g_iload2 dX3_become_10 (g_aload0 dX3_become_11 (g_get fl_X3_27 0 rfl rfl dX3_become_12 (g_icmp_ge (tgt := 31) dX3_become_15 (by decide) (fun h15 => g_vret rfl dX3_become_31 (Nat.le_of_ble_eq_true rfl) (Nat.le_of_ble_eq_true rfl) ?q31) (fun h15 => ?s18))))
      case s18 => omega
      case q31 =>
        refine hQ _ ⟨_, Row.mk rfl rfl hn2 ?_, rfl⟩
        intro m c hm
        have := (List.getElem?_eq_some_iff.mp hm).1
        simp only [cpf, if_pos (show m < i by omega)]
        exact hL2 m c hm
    | succ t ih =>
      intro i hi
      have e2 := t_nI (n := i) (by omega)
      refine g_iload2 dX3_become_10 (g_aload0 dX3_become_11 (g_get fl_X3_27 0 rfl rfl dX3_become_12 (g_icmp_ge (tgt := 31) dX3_become_15 (by decide) (fun h15 => ?s31_2) (fun h15 => g_aload0 dX3_become_18 (g_iload2 dX3_become_19 (g_aload1 dX3_become_20 (g_iload2 dX3_become_21 (?c22_2))))))))
      case s31_2 => omega
      case c22_2 =>
        refine g_V3v dX3_become_22 mv_X3_48 0 rfl rfl rfl (Nat.le_of_ble_eq_true rfl) (Nat.le_of_ble_eq_true rfl) (c_takeOver2 hN (by omega) (by omega)) (fun w1 hq => ?_)
        subst hq
        rw [e2, Int.toNat_natCast, cpf_s, cpf_s, cpf_s, cpf_s, cpf_s]
        refine g_iinc2 ki_1 dX3_become_25 rfl rfl (g_goto (tgt := 10) dX3_become_28 (by decide) (?s10_3))
        rw [nI_1]
        exact ih (i + 1) (by omega)
  refine g_aload0 dX3_become_0 (g_aload1 dX3_become_1 (g_get fl_X3_27 6 rfl rfl dX3_become_2 (g_put fl_X3_27 fp_3_5 0 rfl rfl rfl (Nat.le_of_ble_eq_true rfl) dX3_become_5 (g_iconst ki_0 dX3_become_8 (g_istore2 dX3_become_9 rfl rfl (?s10_4))))))
  have := loop L2.length 0 (by omega)
  simp only [cpf_0] at this
  exact this
def layL (L : List Cr) (c : Cr) : List Cr := match lnear L c.1 L.length with
  | some j => match L[j]? with
    | some c' => if c'.1 = c.1 ∧ c'.2.1 ≠ c.2.1 then L.eraseIdx j else L ++ [c]
    | none => L ++ [c]
  | none => L ++ [c]
theorem lnear_lt {L : List Cr} {p : Nat} : ∀ (n j : Nat), lnear L p n = some j → j < n
  | 0, j, h => by simp [lnear] at h
  | n + 1, j, h => by
    rw [lnear] at h
    split at h
    · split at h
      · cases h; omega
      · have := lnear_lt n j h; omega
    · have := lnear_lt n j h; omega
theorem nI_inj {a b : Nat} (ha : a < 1000) (hb : b < 1000) : nI a = nI b ↔ a = b := nI_eq (by omega) (by omega)
set_option maxRecDepth 20000 in
set_option maxHeartbeats 1000000 in
theorem c_lay (hN : g_N E) (hw : Row E a k L w) (hl : L.length < 40) {c : Cr} (hc : crB c) : g_Cv E mX3_lay (d + 3) [.ref (a k), .int (nI c.1), .int (nI c.2.1), .int (nI c.2.2.1), .int (nI c.2.2.2.1), .int (nI c.2.2.2.2)] w (fun w' => Row E a k (layL L c) w') := by
  have hw' := hw
  obtain ⟨hn, pl, ov, on, ot, be, rfl, hL⟩ := hw
  refine g_enterV hN.1 (by decide) [some (.ref (a k)), some (.int (nI c.1)), some (.int (nI c.2.1)), some (.int (nI c.2.2.1)), some (.int (nI c.2.2.2.1)), some (.int (nI c.2.2.2.2)), none] rfl (Nat.le_of_ble_eq_true rfl) (fun A Q hQ => ?_)
  skip
  have hput : layL L c = L ++ [c] → ∀ x, G E mX3_lay (d + 3) 0 0 A Q 0 0 43 [some (.ref (a k)), some (.int (nI c.1)), some (.int (nI c.2.1)), some (.int (nI c.2.2.1)), some (.int (nI c.2.2.2.1)), some (.int (nI c.2.2.2.2)), some (.int x)] [] (rowW E a k pl ov on ot be (nI L.length)) := by
    intro he x
    refine g_aload0 dX3_lay_43 (g_iload1 dX3_lay_44 (g_iload2 dX3_lay_45 (g_iload3 dX3_lay_46 (g_iload4 dX3_lay_47 (g_iload5 dX3_lay_49 (?c51))))))
    refine g_V5v dX3_lay_51 mv_X3_39 0 rfl rfl rfl (Nat.le_of_ble_eq_true rfl) (Nat.le_of_ble_eq_true rfl) (c_put hN hw' hl hc) (fun w1 hq => ?_)
    refine g_vret rfl dX3_lay_54 (Nat.le_of_ble_eq_true rfl) (Nat.le_of_ble_eq_true rfl) ?q54_2
    exact hQ _ (by rw [he]; exact hq)
  refine g_aload0 dX3_lay_0 (g_iload1 dX3_lay_1 (?c2_3))
  refine g_V1i dX3_lay_2 mv_X3_31 0 rfl rfl rfl (Nat.le_of_ble_eq_true rfl) (Nat.le_of_ble_eq_true rfl) (c_lastNear hN hw' hc.1) (fun r1 w1 hq => ?_)
  obtain ⟨rfl, rfl⟩ := hq
  cases hln : lnear L c.1 L.length with
  | none =>
    have e1 : (lnI none).toInt = -1 := by decide
    have he : layL L c = L ++ [c] := by unfold layL; rw [hln]
    refine g_istore6 dX3_lay_5 rfl rfl (g_iload6 dX3_lay_7 (g_if_lt (tgt := 43) dX3_lay_9 (by decide) (fun h9 => ?s43_4) (fun h9 => ?s12_4)))
    case s12_4 => omega
    case s43_4 => exact hput he _
  | some j =>
    have hj := lnear_lt _ _ hln
    obtain ⟨c', hc'⟩ : ∃ c', L[j]? = some c' := ⟨L[j], List.getElem?_eq_getElem hj⟩
    have e3 := hL j c' hc'
    have e1 : (lnI (some j)).toInt = j := t_nI (by omega)
    have he : layL L c = if c'.1 = c.1 ∧ c'.2.1 ≠ c.2.1 then L.eraseIdx j else L ++ [c] := by unfold layL; rw [hln]; simp only [hc']
    refine g_istore6 dX3_lay_5 rfl rfl (g_iload6 dX3_lay_7 (g_if_lt (tgt := 43) dX3_lay_9 (by decide) (fun h9 => ?s43_5) (fun h9 => g_aload0 dX3_lay_12 (g_get fl_X3_9 0 rfl rfl dX3_lay_13 (g_iload6 dX3_lay_16 (g_iaload 1 rfl dX3_lay_18 ?b18_5 (g_iload1 dX3_lay_19 (g_icmp_ne (tgt := 43) dX3_lay_20 (by decide) (fun h20 => ?s43_5') (fun h20 => g_aload0 dX3_lay_23 (g_get fl_X3_15 0 rfl rfl dX3_lay_24 (g_iload6 dX3_lay_27 (g_iaload 2 rfl dX3_lay_29 ?b29_5 (g_iload2 dX3_lay_30 (g_icmp_eq (tgt := 43) dX3_lay_31 (by decide) (fun h31 => ?s43_5'') (fun h31 => g_aload0 dX3_lay_34 (g_iload6 dX3_lay_35 (?c37_5)))))))))))))))))
    case s43_5 => omega
    all_goals try rw [e1, Int.toNat_natCast, e3.2.1] at h20
    case s43_5' =>
      exact hput (by rw [he, if_neg (fun q => h20 (by rw [q.1]))]) _
    all_goals try rw [e1, Int.toNat_natCast, e3.2.2.1] at h31
    case s43_5'' =>
      exact hput (by rw [he, if_neg (fun q => q.2 ((nI_inj e3.1.2.1 hc.2.1).mp (Int32.toInt_inj.mp h31)))]) _
    case c37_5 =>
      refine g_V1v dX3_lay_37 mv_X3_35 0 rfl rfl rfl (Nat.le_of_ble_eq_true rfl) (Nat.le_of_ble_eq_true rfl) (c_remove hN hw' hj) (fun w1 hq => ?_)
      refine g_goto (tgt := 54) dX3_lay_40 (by decide) (g_vret rfl dX3_lay_54 (Nat.le_of_ble_eq_true rfl) (Nat.le_of_ble_eq_true rfl) ?q54_6)
      refine hQ _ ?_
      rw [he, if_pos ⟨(nI_inj e3.1.1 hc.1).mp (Int32.toInt_inj.mp h20), fun q => h31 (by rw [q])⟩]
      exact hq
    all_goals omega
set_option maxRecDepth 20000 in
set_option maxHeartbeats 1000000 in
theorem c_dogsOf (hN : g_N E) {pl ov on ot be : Nat → Int32} {n i : Int32} (hi : 0 ≤ i.toInt ∧ i.toInt < 40) : g_Ci E mX3_dogsOf (d + 2) [.ref (a k), .int i] (rowW E a k pl ov on ot be n) (fun r w' => r = (1 <<< (on i.toInt.toNat &&& 31)) ||| (1 <<< (ot i.toInt.toNat &&& 31)) ∧ w' = rowW E a k pl ov on ot be n) := by
  refine g_enterI hN.1 (by decide) [some (.ref (a k)), some (.int i)] rfl (Nat.le_of_ble_eq_true rfl) (fun A Q hQ => ?_)
  skip
  refine g_aload0 dX3_dogsOf_0 (g_get fl_X3_18 0 rfl rfl dX3_dogsOf_1 (g_iload1 dX3_dogsOf_4 (g_iaload 3 rfl dX3_dogsOf_5 ?b5 (r_X7_bitN hN (mn_X3_52 hN) dX3_dogsOf_6 (Nat.le_of_ble_eq_true rfl) (Nat.le_of_ble_eq_true rfl) rfl (g_aload0 dX3_dogsOf_9 (g_get fl_X3_21 0 rfl rfl dX3_dogsOf_10 (g_iload1 dX3_dogsOf_13 (g_iaload 4 rfl dX3_dogsOf_14 ?b14 (r_X7_bitN hN (mn_X3_52 hN) dX3_dogsOf_15 (Nat.le_of_ble_eq_true rfl) (Nat.le_of_ble_eq_true rfl) rfl (g_ior dX3_dogsOf_18 (g_iret rfl dX3_dogsOf_19 (Nat.le_of_ble_eq_true rfl) (Nat.le_of_ble_eq_true rfl) ?q19)))))))))))
  case q19 => exact hQ _ _ ⟨rfl, rfl⟩
  all_goals omega
end S20
