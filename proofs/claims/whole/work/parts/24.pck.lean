/-! dogs and the hand -/
def Lst (l : List Nat) (f : Nat → Int32) : Prop := ∀ (i x : Nat), l[i]? = some x → f i = nI x
theorem Lst.at {l : List Nat} {f : Nat → Int32} (h : Lst l f) {i x : Nat} (hx : l[i]? = some x) : f i = nI x := h i x hx
theorem Lst.push {l : List Nat} {f : Nat → Int32} (h : Lst l f) (x : Nat) : Lst (l ++ [x]) (upd f l.length (nI x)) := by
  intro i y hi
  by_cases hil : i < l.length
  · rw [List.getElem?_append_left hil] at hi
    rw [upd_o (Nat.ne_of_lt hil)]
    exact h i y hi
  · have hlt := (List.getElem?_eq_some_iff.mp hi).1
    rw [List.length_append, List.length_singleton] at hlt
    have : i = l.length := by omega
    subst this
    rw [List.getElem?_append_right (Nat.le_refl _), Nat.sub_self] at hi
    cases hi
    rw [upd_s]
theorem Lst.set {l : List Nat} {f : Nat → Int32} (h : Lst l f) (i x : Nat) : Lst (l.set i x) (upd f i (nI x)) := by
  intro j y hj
  by_cases hji : j = i
  · subst hji
    have hlt : j < l.length := by have := (List.getElem?_eq_some_iff.mp hj).1; rwa [List.length_set] at this
    rw [List.getElem?_set_self hlt] at hj
    cases hj
    rw [upd_s]
  · rw [List.getElem?_set_ne (Ne.symm hji)] at hj
    rw [upd_o hji]
    exact h j y hj
abbrev packW (E : GE) (a : Nat → Nat) (k : Nat) (kd pc nb hs od : Nat → Int32) (n r : Int32) : va_W := [(a k, .inr (1, [.ref (a (k + 1)), .ref (a (k + 2)), .ref (a (k + 3)), .ref (a (k + 4)), .ref (a (k + 5)), .ref (a (k + 6)), .int n, .int r])), (a (k + 1), ia E 6 kd), (a (k + 2), ia E 6 pc), (a (k + 3), ia E 6 nb), (a (k + 4), ia E 6 hs), (a (k + 5), ia E 6 od)]
/-- kinds, paces, numbers, houses of the dogs; the order -/
abbrev Dg : Type := List Nat × List Nat × List Nat × List Nat × List Nat
def dgOK (D : Dg) : Prop := D.1.length ≤ 6 ∧ D.2.1.length = D.1.length ∧ D.2.2.1.length = D.1.length ∧ D.2.2.2.1.length = D.1.length ∧ D.2.2.2.2.length = D.1.length ∧ (∀ x ∈ D.1, x ≤ 5) ∧ (∀ x ∈ D.2.1, 1 ≤ x ∧ x ≤ 9) ∧ (∀ x ∈ D.2.2.1, x ≤ 9) ∧ (∀ x ∈ D.2.2.2.1, x ≤ 99) ∧ (∀ x ∈ D.2.2.2.2, x < D.1.length) ∧ D.2.2.2.2.Nodup
def Pck (E : GE) (a : Nat → Nat) (k : Nat) (D : Dg) (r : Nat) (w : va_W) : Prop := dgOK D ∧ ∃ kd pc nb hs od, w = packW E a k kd pc nb hs od (nI D.1.length) (nI r) ∧ Lst D.1 kd ∧ Lst D.2.1 pc ∧ Lst D.2.2.1 nb ∧ Lst D.2.2.2.1 hs ∧ Lst D.2.2.2.2 od
theorem Pck.mk {E : GE} {a : Nat → Nat} {k : Nat} {D : Dg} {r : Nat} {w : va_W} {kd pc nb hs od : Nat → Int32} {n r' : Int32} (hw : w = packW E a k kd pc nb hs od n r') (hn : n = nI D.1.length) (hr : r' = nI r) (hD : dgOK D) (h : Lst D.1 kd ∧ Lst D.2.1 pc ∧ Lst D.2.2.1 nb ∧ Lst D.2.2.2.1 hs ∧ Lst D.2.2.2.2 od) : Pck E a k D r w := ⟨hD, kd, pc, nb, hs, od, by rw [hw, hn, hr], h⟩
theorem bit_nI {x : Nat} (hx : x < 31) : (1 : Int32) <<< (nI x &&& 31) = nI (1 <<< x) := by
  have : ∀ x, x < 31 → (1 : Int32) <<< (nI x &&& 31) = nI (1 <<< x) := by decide
  exact this x hx
theorem or_nI (x y : Nat) : nI x ||| nI y = nI (x ||| y) := by
  apply Int32.toBitVec_inj.mp
  simp [nI, Int32.toBitVec_or, Int32.toBitVec_ofNat, BitVec.ofNat_or]
theorem and_nI (x y : Nat) : nI x &&& nI y = nI (x &&& y) := by
  apply Int32.toBitVec_inj.mp
  simp [nI, Int32.toBitVec_and, Int32.toBitVec_ofNat, BitVec.ofNat_and]
/-- dogs as bits -/
def bset (l : List Nat) : Nat := l.foldl (fun s x => s ||| 1 <<< x) 0
theorem bset_snoc (l : List Nat) (x : Nat) : bset (l ++ [x]) = bset l ||| 1 <<< x := by
  unfold bset; rw [List.foldl_append]; rfl
section S24
variable {E : GE} {d : Nat} {a : Nat → Nat} {k : Nat} {D : Dg} {r : Nat} {w : va_W}
set_option maxRecDepth 20000 in
set_option maxHeartbeats 1000000 in
theorem c_placeOf (hN : g_N E) (hw : Pck E a k D r w) {x : Nat} (hx : x ∈ D.2.2.2.2) : g_Ci E mX1_placeOf (d + 1) [.ref (a k), .int (nI x)] w (fun v w' => v = nI (D.2.2.2.2.idxOf x) ∧ w' = w) := by
  have hw' := hw
  obtain ⟨hD, kd, pc, nb, hs, od, rfl, h1, h2, h3, h4, h5⟩ := hw
  obtain ⟨hn, l1, l2, l3, l4, b1, b2, b3, b4, b5, hnd⟩ := hD
  refine g_enterI hN.1 (by decide) [some (.ref (a k)), some (.int (nI x)), none] rfl (Nat.le_of_ble_eq_true rfl) (fun A Q hQ => ?_)
  have tc0 := tc_0; have tc1 := tc_1
  have e1 := t_nI (n := D.1.length) (by omega)
  have hxl := b5 x hx
  have hlt := List.idxOf_lt_length_of_mem hx
  have loop : ∀ t i, i + t = D.2.2.2.2.idxOf x → G E mX1_placeOf (d + 1) 0 0 A Q 0 0 2 [some (.ref (a k)), some (.int (nI x)), some (.int (nI i))] [] (packW E a k kd pc nb hs od (nI D.1.length) (nI r)) := by
    intro t
    induction t with
    | zero =>
      intro i hi
      have e2 := t_nI (n := i) (by omega)
      have hix : i = D.2.2.2.2.idxOf x := by omega
      have hget : D.2.2.2.2[i]? = some x := by rw [hix, List.getElem?_eq_getElem hlt, List.getElem_idxOf]
      refine g_iload2 dX1_placeOf_2 (g_aload0 dX1_placeOf_3 (g_get fl_X1_34 0 rfl rfl dX1_placeOf_4 (g_icmp_ge (tgt := 28) dX1_placeOf_7 (by decide) (fun h7 => ?s28) (fun h7 => g_aload0 dX1_placeOf_10 (g_get fl_X1_24 0 rfl rfl dX1_placeOf_11 (g_iload2 dX1_placeOf_14 (g_iaload 5 rfl dX1_placeOf_15 ?b15 (g_iload1 dX1_placeOf_16 (g_icmp_ne (tgt := 22) dX1_placeOf_17 (by decide) (fun h17 => ?s22) (fun h17 => g_iload2 dX1_placeOf_20 (g_iret rfl dX1_placeOf_21 (Nat.le_of_ble_eq_true rfl) (Nat.le_of_ble_eq_true rfl) ?q21)))))))))))
      case s28 => omega
      case b15 => omega
      case s22 => rw [e2, Int.toNat_natCast, h5.at hget] at h17; exact absurd rfl h17
      case q21 => exact hQ _ _ ⟨by rw [hix], rfl⟩
    | succ t ih =>
      intro i hi
      have e2 := t_nI (n := i) (by omega)
      obtain ⟨y, hy⟩ : ∃ y, D.2.2.2.2[i]? = some y := ⟨D.2.2.2.2[i], List.getElem?_eq_getElem (by omega)⟩
      have hyl := b5 y (List.mem_of_getElem? hy)
      have hne : y ≠ x := by
        intro q
        subst q
        have h6 : i < D.2.2.2.2.idxOf y := by omega
        have := List.not_of_lt_findIdx (p := (· == y)) (xs := D.2.2.2.2) h6
        rw [List.getElem?_eq_getElem (by omega)] at hy
        have := Option.some.inj hy
        simp_all
      refine g_iload2 dX1_placeOf_2 (g_aload0 dX1_placeOf_3 (g_get fl_X1_34 0 rfl rfl dX1_placeOf_4 (g_icmp_ge (tgt := 28) dX1_placeOf_7 (by decide) (fun h7 => ?s28_2) (fun h7 => g_aload0 dX1_placeOf_10 (g_get fl_X1_24 0 rfl rfl dX1_placeOf_11 (g_iload2 dX1_placeOf_14 (g_iaload 5 rfl dX1_placeOf_15 ?b15_2 (g_iload1 dX1_placeOf_16 (g_icmp_ne (tgt := 22) dX1_placeOf_17 (by decide) (fun h17 => g_iinc2 ki_1 dX1_placeOf_22 rfl rfl (g_goto (tgt := 2) dX1_placeOf_25 (by decide) (?s2_2))) (fun h17 => g_iload2 dX1_placeOf_20 (g_iret rfl dX1_placeOf_21 (Nat.le_of_ble_eq_true rfl) (Nat.le_of_ble_eq_true rfl) ?q21_2)))))))))))
      case s28_2 => omega
      case b15_2 => omega
      case q21_2 =>
        rw [e2, Int.toNat_natCast, h5.at hy] at h17
        exact absurd ((nI_inj (by omega) (by omega)).mp (Int32.toInt_inj.mp h17)) hne
      case s2_2 =>
        rw [nI_1]
        exact ih (i + 1) (by omega)
  refine g_iconst ki_0 dX1_placeOf_0 (g_istore2 dX1_placeOf_1 rfl rfl (?s2_3))
  exact loop _ 0 (Nat.zero_add _)
set_option maxRecDepth 20000 in
set_option maxHeartbeats 1000000 in
theorem c_dogsBefore (hN : g_N E) (hw : Pck E a k D r w) {p : Nat} (hp : p ≤ D.1.length) : g_Ci E mX1_dogsBefore (d + 2) [.ref (a k), .int (nI p)] w (fun v w' => v = nI (bset (D.2.2.2.2.take p)) ∧ w' = w) := by
  obtain ⟨hD, kd, pc, nb, hs, od, rfl, h1, h2, h3, h4, h5⟩ := hw
  obtain ⟨hn, l1, l2, l3, l4, b1, b2, b3, b4, b5, hnd⟩ := hD
  refine g_enterI hN.1 (by decide) [some (.ref (a k)), some (.int (nI p)), none, none] rfl (Nat.le_of_ble_eq_true rfl) (fun A Q hQ => ?_)
  have tc0 := tc_0; have tc1 := tc_1
  have e1 := t_nI (n := D.1.length) (by omega)
  have ep := t_nI (n := p) (by omega)
  have loop : ∀ t i, i + t = p → G E mX1_dogsBefore (d + 2) 0 0 A Q 0 0 4 [some (.ref (a k)), some (.int (nI p)), some (.int (nI (bset (D.2.2.2.2.take i)))), some (.int (nI i))] [] (packW E a k kd pc nb hs od (nI D.1.length) (nI r)) := by
    intro t
    induction t with
    | zero =>
      intro i hi
      have e2 := t_nI (n := i) (by omega)
      have hip : i = p := by omega
      refine g_iload3 dX1_dogsBefore_4 (g_iload1 dX1_dogsBefore_5 (g_icmp_ge (tgt := 35) dX1_dogsBefore_6 (by decide) (fun h6 => g_iload2 dX1_dogsBefore_35 (g_iret rfl dX1_dogsBefore_36 (Nat.le_of_ble_eq_true rfl) (Nat.le_of_ble_eq_true rfl) ?q36)) (fun h6 => ?s9)))
      case s9 => omega
      case q36 => exact hQ _ _ ⟨by rw [hip], rfl⟩
    | succ t ih =>
      intro i hi
      have e2 := t_nI (n := i) (by omega)
      obtain ⟨y, hy⟩ : ∃ y, D.2.2.2.2[i]? = some y := ⟨D.2.2.2.2[i], List.getElem?_eq_getElem (by omega)⟩
      have hyl := b5 y (List.mem_of_getElem? hy)
      have hT : D.2.2.2.2.take (i + 1) = D.2.2.2.2.take i ++ [y] := by rw [List.take_succ, hy]; rfl
      refine g_iload3 dX1_dogsBefore_4 (g_iload1 dX1_dogsBefore_5 (g_icmp_ge (tgt := 35) dX1_dogsBefore_6 (by decide) (fun h6 => ?s35_2) (fun h6 => g_iload3 dX1_dogsBefore_9 (g_aload0 dX1_dogsBefore_10 (g_get fl_X1_34 0 rfl rfl dX1_dogsBefore_11 (g_icmp_ge (tgt := 35) dX1_dogsBefore_14 (by decide) (fun h14 => ?s35_2') (fun h14 => g_iload2 dX1_dogsBefore_17 (g_aload0 dX1_dogsBefore_18 (g_get fl_X1_24 0 rfl rfl dX1_dogsBefore_19 (g_iload3 dX1_dogsBefore_22 (g_iaload 5 rfl dX1_dogsBefore_23 ?b23_2 (r_X7_bitN hN (mn_X1_45 hN) dX1_dogsBefore_24 (Nat.le_of_ble_eq_true rfl) (Nat.le_of_ble_eq_true rfl) rfl (g_ior dX1_dogsBefore_27 (g_istore2 dX1_dogsBefore_28 rfl rfl (g_iinc3 ki_1 dX1_dogsBefore_29 rfl rfl (g_goto (tgt := 4) dX1_dogsBefore_32 (by decide) (?s4_2)))))))))))))))))
      case s35_2 => omega
      case s35_2' => omega
      case b23_2 => omega
      case s4_2 =>
        rw [nI_1, e2, Int.toNat_natCast, h5.at hy, bit_nI (by omega), or_nI, ← bset_snoc, ← hT]
        exact ih (i + 1) (by omega)
  refine g_iconst ki_0 dX1_dogsBefore_0 (g_istore2 dX1_dogsBefore_1 rfl rfl (g_iconst ki_0 dX1_dogsBefore_2 (g_istore3 dX1_dogsBefore_3 rfl rfl (?s4_3))))
  exact loop p 0 (Nat.zero_add _)
/-- those at p and p + 1 change places -/
def swapL (l : List Nat) (p : Nat) : List Nat := match l[p]?, l[p + 1]? with
  | some x, some y => (l.set p y).set (p + 1) x
  | _, _ => l
theorem swapL_eq {l : List Nat} {p x y : Nat} (hx : l[p]? = some x) (hy : l[p + 1]? = some y) : swapL l p = (l.set p y).set (p + 1) x := by
  unfold swapL; rw [hx, hy]
theorem swapL_len (l : List Nat) (p : Nat) : (swapL l p).length = l.length := by
  unfold swapL; split <;> simp
theorem swapL_perm (l : List Nat) (p : Nat) : List.Perm (swapL l p) l := by
  induction l generalizing p with
  | nil => unfold swapL; simp
  | cons z l ih =>
    cases p with
    | zero =>
      cases l with
      | nil => unfold swapL; simp
      | cons y l => unfold swapL; simp; exact List.Perm.swap z y l
    | succ p =>
      have : swapL (z :: l) (p + 1) = z :: swapL l p := by
        unfold swapL
        simp only [List.getElem?_cons_succ]
        split <;> simp
      rw [this]
      exact (ih p).cons z
abbrev dgO (D : Dg) (O : List Nat) : Dg := (D.1, D.2.1, D.2.2.1, D.2.2.2.1, O)
theorem dgOK_perm {D : Dg} {O : List Nat} (h : dgOK D) (hp : List.Perm O D.2.2.2.2) : dgOK (dgO D O) := by
  obtain ⟨hn, l1, l2, l3, l4, b1, b2, b3, b4, b5, hnd⟩ := h
  exact ⟨hn, l1, l2, l3, by rw [hp.length_eq]; exact l4, b1, b2, b3, b4, fun x hx => b5 x (hp.mem_iff.mp hx), hp.nodup_iff.mpr hnd⟩
set_option maxRecDepth 20000 in
set_option maxHeartbeats 1000000 in
theorem c_changePlaces (hN : g_N E) (hw : Pck E a k D r w) {p : Nat} (hp : p + 1 < D.1.length) : g_Cv E mX1_changePlaces (d + 2) [.ref (a k), .int (nI p)] w (fun w' => Pck E a k (dgO D (swapL D.2.2.2.2 p)) r w') := by
  obtain ⟨hD, kd, pc, nb, hs, od, rfl, h1, h2, h3, h4, h5⟩ := hw
  have hD' := hD
  obtain ⟨hn, l1, l2, l3, l4, b1, b2, b3, b4, b5, hnd⟩ := hD
  refine g_enterV hN.1 (by decide) [some (.ref (a k)), some (.int (nI p)), none] rfl (Nat.le_of_ble_eq_true rfl) (fun A Q hQ => ?_)
  have tc0 := tc_0; have tc1 := tc_1; have tc2 := tc_2
  have e1 := t_nI (n := D.1.length) (by omega)
  have ep := t_nI (n := p) (by omega)
  have ep1 : (nI p + 1).toInt = ((p + 1 : Nat) : Int) := by rw [nI_1, t_nI (by omega)]
  have e2 : (nI D.1.length - 2).toInt = (D.1.length : Int) - 2 := by rw [t_sub (by omega) (by omega)]; omega
  obtain ⟨x, hx⟩ : ∃ x, D.2.2.2.2[p]? = some x := ⟨D.2.2.2.2[p], List.getElem?_eq_getElem (by omega)⟩
  obtain ⟨y, hy⟩ : ∃ y, D.2.2.2.2[p + 1]? = some y := ⟨D.2.2.2.2[p + 1], List.getElem?_eq_getElem (by omega)⟩
  have hb := g_biz (p := ((0 : Int32).toInt ≤ (nI p).toInt ∧ (nI p).toInt ≤ (nI D.1.length - 2).toInt))
  refine g_iload1 dX1_changePlaces_0 (g_iconst ki_0 dX1_changePlaces_1 (g_aload0 dX1_changePlaces_2 (g_get fl_X1_34 0 rfl rfl dX1_changePlaces_3 (g_iconst ki_2 dX1_changePlaces_6 (g_isub dX1_changePlaces_7 (r_X7_isWithinN hN (mn_X1_49 hN) dX1_changePlaces_8 (Nat.le_of_ble_eq_true rfl) (Nat.le_of_ble_eq_true rfl) rfl (g_if_ne (tgt := 15) dX1_changePlaces_11 (by decide) (fun h11 => g_aload0 dX1_changePlaces_15 (g_get fl_X1_24 0 rfl rfl dX1_changePlaces_16 (g_iload1 dX1_changePlaces_19 (g_iaload 5 rfl dX1_changePlaces_20 ?b20 (g_istore2 dX1_changePlaces_21 rfl rfl (g_aload0 dX1_changePlaces_22 (g_get fl_X1_24 0 rfl rfl dX1_changePlaces_23 (g_iload1 dX1_changePlaces_26 (g_aload0 dX1_changePlaces_27 (g_get fl_X1_24 0 rfl rfl dX1_changePlaces_28 (g_iload1 dX1_changePlaces_31 (g_iconst ki_1 dX1_changePlaces_32 (g_iadd dX1_changePlaces_33 (g_iaload 5 rfl dX1_changePlaces_34 ?b34 (g_iastore 5 rfl dX1_changePlaces_35 ?b35 (g_aload0 dX1_changePlaces_36 (g_get fl_X1_24 0 rfl rfl dX1_changePlaces_37 (g_iload1 dX1_changePlaces_40 (g_iconst ki_1 dX1_changePlaces_41 (g_iadd dX1_changePlaces_42 (g_iload2 dX1_changePlaces_43 (g_iastore 5 rfl dX1_changePlaces_44 ?b44 (g_vret rfl dX1_changePlaces_45 (Nat.le_of_ble_eq_true rfl) (Nat.le_of_ble_eq_true rfl) ?q45))))))))))))))))))))))) (fun h11 => g_vret rfl dX1_changePlaces_14 (Nat.le_of_ble_eq_true rfl) (Nat.le_of_ble_eq_true rfl) ?q14))))))))
  case q14 => omega
  case q45 =>
    refine hQ _ (Pck.mk rfl rfl rfl (dgOK_perm hD' (swapL_perm _ _)) ⟨h1, h2, h3, h4, ?_⟩)
    show Lst (swapL D.2.2.2.2 p) _
    rw [swapL_eq hx hy, ep, ep1, Int.toNat_natCast, Int.toNat_natCast, h5.at hx, h5.at hy]
    exact (h5.set p y).set (p + 1) x
  all_goals omega
set_option maxRecDepth 20000 in
set_option maxHeartbeats 1000000 in
theorem c_pckJoin (hN : g_N E) (hw : Pck E a k D r w) (hn6 : D.1.length < 6) {x1 x2 x3 x4 : Nat} (g1 : x1 ≤ 5) (g2 : 1 ≤ x2 ∧ x2 ≤ 9) (g3 : x3 ≤ 9) (g4 : x4 ≤ 99) : g_Ci E mX1_join (d + 1) [.ref (a k), .int (nI x1), .int (nI x2), .int (nI x3), .int (nI x4)] w (fun v w' => v = nI D.1.length ∧ Pck E a k (D.1 ++ [x1], D.2.1 ++ [x2], D.2.2.1 ++ [x3], D.2.2.2.1 ++ [x4], D.2.2.2.2 ++ [D.1.length]) r w') := by
  obtain ⟨hD, kd, pc, nb, hs, od, rfl, h1, h2, h3, h4, h5⟩ := hw
  obtain ⟨hn, l1, l2, l3, l4, b1, b2, b3, b4, b5, hnd⟩ := hD
  refine g_enterI hN.1 (by decide) [some (.ref (a k)), some (.int (nI x1)), some (.int (nI x2)), some (.int (nI x3)), some (.int (nI x4))] rfl (Nat.le_of_ble_eq_true rfl) (fun A Q hQ => ?_)
  have tcm4 := tc_m4; have tc1 := tc_1; have tc6 := tc_6
  have e1 := t_nI (n := D.1.length) (by omega)
  refine g_aload0 dX1_join_0 (g_get fl_X1_34 0 rfl rfl dX1_join_1 (g_bipush kb_6 dX1_join_4 (g_icmp_lt (tgt := 12) dX1_join_6 (by decide) (fun h6 => g_aload0 dX1_join_12 (g_get fl_X1_9 0 rfl rfl dX1_join_13 (g_aload0 dX1_join_16 (g_get fl_X1_34 0 rfl rfl dX1_join_17 (g_iload1 dX1_join_20 (g_iastore 1 rfl dX1_join_21 ?b21 (g_aload0 dX1_join_22 (g_get fl_X1_15 0 rfl rfl dX1_join_23 (g_aload0 dX1_join_26 (g_get fl_X1_34 0 rfl rfl dX1_join_27 (g_iload2 dX1_join_30 (g_iastore 2 rfl dX1_join_31 ?b31 (g_aload0 dX1_join_32 (g_get fl_X1_18 0 rfl rfl dX1_join_33 (g_aload0 dX1_join_36 (g_get fl_X1_34 0 rfl rfl dX1_join_37 (g_iload3 dX1_join_40 (g_iastore 3 rfl dX1_join_41 ?b41 (g_aload0 dX1_join_42 (g_get fl_X1_21 0 rfl rfl dX1_join_43 (g_aload0 dX1_join_46 (g_get fl_X1_34 0 rfl rfl dX1_join_47 (g_iload4 dX1_join_50 (g_iastore 4 rfl dX1_join_52 ?b52 (g_aload0 dX1_join_53 (g_get fl_X1_24 0 rfl rfl dX1_join_54 (g_aload0 dX1_join_57 (g_get fl_X1_34 0 rfl rfl dX1_join_58 (g_aload0 dX1_join_61 (g_get fl_X1_34 0 rfl rfl dX1_join_62 (g_iastore 5 rfl dX1_join_65 ?b65 (g_aload0 dX1_join_66 (g_dup dX1_join_67 rfl (g_get fl_X1_34 0 rfl rfl dX1_join_68 (g_iconst ki_1 dX1_join_71 (g_iadd dX1_join_72 (g_put fl_X1_34 fp_1_6 0 rfl rfl rfl (Nat.le_of_ble_eq_true rfl) dX1_join_73 (g_aload0 dX1_join_76 (g_get fl_X1_34 0 rfl rfl dX1_join_77 (g_iconst ki_1 dX1_join_80 (g_isub dX1_join_81 (g_iret rfl dX1_join_82 (Nat.le_of_ble_eq_true rfl) (Nat.le_of_ble_eq_true rfl) ?q82)))))))))))))))))))))))))))))))))))))))))) (fun h6 => g_bipush kb_m4 dX1_join_9 (g_iret rfl dX1_join_11 (Nat.le_of_ble_eq_true rfl) (Nat.le_of_ble_eq_true rfl) ?q11)))))
  case q11 => omega
  case q82 =>
    refine hQ _ _ ⟨by rw [nI_1, nI_pred], Pck.mk rfl ?_ rfl ?_ ⟨?_, ?_, ?_, ?_, ?_⟩⟩
    · show _ = nI (D.1 ++ [x1]).length
      rw [List.length_append]; exact nI_1 _
    · have mm : ∀ {l : List Nat} {P : Nat → Prop} {z : Nat}, (∀ y ∈ l, P y) → P z → ∀ y ∈ l ++ [z], P y := by
        intro l P z h hz y hy
        rcases List.mem_append.mp hy with q | q
        · exact h y q
        · rw [List.mem_singleton.mp q]; exact hz
      unfold dgOK
      simp only [List.length_append, List.length_singleton]
      refine ⟨by omega, by omega, by omega, by omega, by omega, mm b1 g1, mm b2 g2, mm b3 g3, mm b4 g4, mm (fun y hy => by have := b5 y hy; omega) (by omega), ?_⟩
      rw [List.nodup_append]
      refine ⟨hnd, by simp, ?_⟩
      intro y hy z hz
      rw [List.mem_singleton.mp hz]
      have := b5 y hy
      omega
    all_goals rw [e1, Int.toNat_natCast]
    · exact h1.push x1
    · rw [← l1]; exact h2.push x2
    · rw [← l2]; exact h3.push x3
    · rw [← l3]; exact h4.push x4
    · have := h5.push D.1.length
      rw [l4] at this; exact this
  all_goals omega
end S24
