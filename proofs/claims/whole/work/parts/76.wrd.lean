theorem wcode_in : ∀ j, j < 12 → wcode (wrd j) = j := by decide +kernel
theorem wcodeF_out (l : List Nat) : ∀ t i j, j < 23 → wcodeF l i t = j → l = wrd j ∧ i ≤ j ∧ j < i + t
  | 0, i, j, hj, h => by rw [wcodeF] at h; omega
  | t + 1, i, j, hj, h => by
    rw [wcodeF] at h
    by_cases q : l = wrd i
    · rw [if_pos q] at h; subst h; exact ⟨q, Nat.le_refl _, by omega⟩
    · rw [if_neg q] at h
      have := wcodeF_out l t (i + 1) j hj h
      exact ⟨this.1, by omega, by omega⟩
theorem wcode_iff {l : List Nat} {j : Nat} (hj : j < 12) : wcode l = j ↔ l = wrd j := by
  constructor
  · intro h; exact (wcodeF_out l 12 0 j (by omega) h).1
  · intro h; rw [h]; exact wcode_in j hj
theorem wcode_cases (l : List Nat) : wcode l < 12 ∨ wcode l = 23 := by
  have : ∀ t i, i + t = 12 → wcodeF l i t < 12 ∨ wcodeF l i t = 23 := by
    intro t
    induction t with
    | zero => intro i hi; exact Or.inr rfl
    | succ t ih =>
      intro i hi
      rw [wcodeF]
      by_cases q : l = wrd i
      · rw [if_pos q]; exact Or.inl (by omega)
      · rw [if_neg q]; exact ih (i + 1) (by omega)
  exact this 12 0 rfl
theorem wrd_pad : ∀ j, j < 12 → (wrd j).length ≤ 8 ∧ ∀ i, i < (wrd j).length → 97 ≤ (wrd j).getD i 0 ∧ (wrd j).getD i 0 ≤ 122 := by decide +kernel
theorem MyT.sign {B : List Nat} {P : PS} {k a h : Int32} {t : Int64} (hT : MyT B P k a h t) {j c : Nat} (hc : sgL[j]? = some c) : (k.toInt = 3 ∧ t.toInt = (c : Int)) ↔ P.1 = 12 + j := by
  have hj : j < 8 := (List.getElem?_eq_some_iff.mp hc).1
  have inj : ∀ i, i < 8 → ∀ j, j < 8 → sgL.getD i 0 = sgL.getD j 0 → i = j := by decide
  obtain ⟨-, -, -, ⟨q1, q2, -⟩ | ⟨q1, q2, q3, q4, q5⟩ | ⟨q1, q2, -⟩ | ⟨c', j', q1, q2, q3, q4, q5, q6⟩ | ⟨q1, q2⟩⟩ := hT
  · rw [q2, q1]; simp; omega
  · rw [q1]
    have := wcode_cases (slc B P.2.1 P.2.2.1)
    have : P.1 ≠ 12 + j := by omega
    simp; omega
  · rw [q1, q2]; simp; omega
  · have hj' : j' < 8 := (List.getElem?_eq_some_iff.mp q5).1
    rw [q1, q6, q4]
    constructor
    · intro q
      have hcc : c' = c := by have := q.2; omega
      have : j' = j := inj j' hj' j hj (by rw [List.getD_eq_getElem?_getD, List.getD_eq_getElem?_getD, hc, q5, hcc])
      omega
    · intro q
      have : j' = j := by omega
      subst this
      rw [hc] at q5
      cases q5
      exact ⟨by decide, rfl⟩
  · rw [q2, q1]; simp; omega
section S76
variable {E : GE} {M : GM} {d mc ms : Nat} {A : Nat → Prop} {Q : Option Value → va_W → Prop} {k n pc : Nat} {ls : List (Option Value)} {st : List Value} {b : Nat → Nat} {v : Nat → Int32} {t : Int64} {f : Nat → Nat → Int32} {B : List Nat} {ti : Nat} {P : PS}
set_option maxRecDepth 20000 in
theorem c_X8_isSign (hN : g_N E) (c : Int32) : g_Ci E mX8_isSign (d + 1) [.ref (b 0), .int c] (mW E b v t f) (fun z w => z = g_bi ((v 29).toInt = 0 ∧ (v 25).toInt = 3 ∧ t.toInt = c.toInt) ∧ w = mW E b v t f) := by
  have e1 := lg_c t c.toInt64
  rw [Int32.toInt_toInt64] at e1
  refine g_enterI hN.1 (by decide) [some (.ref (b 0)), some (.int c)] rfl (Nat.le_of_ble_eq_true rfl) (fun A Q hQ => ?_)
  have tc0 := tc_0; have tc1 := tc_1; have tc3 := tc_3
  refine g_aload0 dX8_isSign_0 (g_mget fl_X8_170 mg_29 dX8_isSign_1 (g_if_ne (tgt := 29) dX8_isSign_4 (by decide) (fun h4 => g_iconst ki_0 dX8_isSign_29 (g_zret rfl (by first | exact g_bi01 _ | exact Or.inl rfl | exact Or.inr rfl) dX8_isSign_30 (Nat.le_of_ble_eq_true rfl) (Nat.le_of_ble_eq_true rfl) ?q30)) (fun h4 => g_aload0 dX8_isSign_7 (g_mget fl_X8_155 mg_25 dX8_isSign_8 (g_iconst ki_3 dX8_isSign_11 (g_icmp_ne (tgt := 29) dX8_isSign_12 (by decide) (fun h12 => g_iconst ki_0 dX8_isSign_29 (g_zret rfl (by first | exact g_bi01 _ | exact Or.inl rfl | exact Or.inr rfl) dX8_isSign_30 (Nat.le_of_ble_eq_true rfl) (Nat.le_of_ble_eq_true rfl) ?q30')) (fun h12 => g_aload0 dX8_isSign_15 (g_mget fl_X8_166 mg_27 dX8_isSign_16 (g_iload1 dX8_isSign_19 (g_i2l dX8_isSign_20 (g_lcmp dX8_isSign_21 (g_if_ne (tgt := 29) dX8_isSign_22 (by decide) (fun h22 => g_iconst ki_0 dX8_isSign_29 (g_zret rfl (by first | exact g_bi01 _ | exact Or.inl rfl | exact Or.inr rfl) dX8_isSign_30 (Nat.le_of_ble_eq_true rfl) (Nat.le_of_ble_eq_true rfl) ?q30'')) (fun h22 => g_iconst ki_1 dX8_isSign_25 (g_goto (tgt := 30) dX8_isSign_26 (by decide) (g_zret rfl (by first | exact g_bi01 _ | exact Or.inl rfl | exact Or.inr rfl) dX8_isSign_30 (Nat.le_of_ble_eq_true rfl) (Nat.le_of_ble_eq_true rfl) ?q30''')))))))))))))))
  all_goals refine hQ _ _ ⟨?_, rfl⟩
  all_goals first | (rw [g_bi1 (by split at e1 <;> omega)]; done) | (rw [g_bi0 (by split at e1 <;> omega)]; done) | (rw [g_bi0 (by omega)])
theorem r_X8_isSign (hN : g_N E) {idx : Nat} {c : Int32} (hm : MV M.1.cls idx mX8_isSign 1) (hd : decode M.2.1 pc = .ok (.invokevirtual idx, 3)) (hk : k ≤ mc) (hn : n ≤ ms) (hr : Nat.ble (st.map fun v => v.category).sum 8 = true) (kk : G E M (d + 2) mc ms A Q k n (pc + 3) ls (.int (g_bi ((v 29).toInt = 0 ∧ (v 25).toInt = 3 ∧ t.toInt = c.toInt)) :: st) (mW E b v t f)) : G E M (d + 2) mc ms A Q k n pc ls (.int c :: .ref (b 0) :: st) (mW E b v t f) :=
  g_V1i hd hm 0 rfl rfl hr hk hn (c_X8_isSign hN c) (fun r_ w_ hq => by obtain ⟨h1_, h2_⟩ := hq; rw [h1_, h2_]; exact kk)
def failV (v : Nat → Int32) : Nat → Int32 := upd (upd v 29 1) 30 (v 26)
set_option maxRecDepth 20000 in
theorem c_X8_fail (hN : g_N E) : g_Cv E mX8_fail (d + 1) [.ref (b 0)] (mW E b v t f) (fun w => w = mW E b (if (v 29).toInt = 0 then failV v else v) t f) := by
  refine g_enterV hN.1 (by decide) [some (.ref (b 0))] rfl (Nat.le_of_ble_eq_true rfl) (fun A Q hQ => ?_)
  have tc1 := tc_1
  refine g_aload0 dX8_fail_0 (g_mget fl_X8_170 mg_29 dX8_fail_1 (g_if_ne (tgt := 20) dX8_fail_4 (by decide) (fun h4 => g_vret rfl dX8_fail_20 (Nat.le_of_ble_eq_true rfl) (Nat.le_of_ble_eq_true rfl) ?q20) (fun h4 => g_aload0 dX8_fail_7 (g_iconst ki_1 dX8_fail_8 (g_mput fl_X8_170 fp_7_29 ms_29 rfl rfl rfl dX8_fail_9 (g_aload0 dX8_fail_12 (g_aload0 dX8_fail_13 (g_mget fl_X8_152 mg_26 dX8_fail_14 (g_mput fl_X8_174 fp_7_30 ms_30 rfl rfl rfl dX8_fail_17 (g_vret rfl dX8_fail_20 (Nat.le_of_ble_eq_true rfl) (Nat.le_of_ble_eq_true rfl) ?q20'))))))))))
  case q20 => exact hQ _ (by rw [if_neg (by omega)])
  case q20' =>
    refine hQ _ ?_
    rw [if_pos (by omega), upd_o (show (26 : Nat) ≠ 29 by decide)]
    rfl
set_option maxRecDepth 20000 in
set_option maxHeartbeats 1000000 in
theorem c_X8_isLetter (hN : g_N E) (hB : MyB B ti v f) {s e i : Nat} (hs : v 26 = nI s) (he : v 24 = nI e) (hse : s ≤ e) (heB : e ≤ B.length) (hi : i < 8) (c : Int32) : g_Ci E mX8_isLetter (d + 2) [.ref (b 0), .int (nI i), .int c] (mW E b v t f) (fun z w => z = g_bi (c.toInt = if s + i < e then ((B.getD (s + i) 0 : Nat) : Int) else 0) ∧ w = mW E b v t f) := by
  have hB0 := hB
  obtain ⟨h1, h2, h3, h4, h5, h6⟩ := hB0
  refine g_enterI hN.1 (by decide) [some (.ref (b 0)), some (.int (nI i)), some (.int c)] rfl (Nat.le_of_ble_eq_true rfl) (fun A Q hQ => ?_)
  have tc0 := tc_0; have tc1 := tc_1
  have e1 : (v 26 + nI i).toInt = ((s + i : Nat) : Int) := by rw [hs, nI_add, t_nI (by omega)]
  have e2 : (v 24).toInt = (e : Int) := by rw [he, t_nI (by omega)]
  refine g_aload0 dX8_isLetter_0 (g_mget fl_X8_152 mg_26 dX8_isLetter_1 (g_iload1 dX8_isLetter_4 (g_iadd dX8_isLetter_5 (g_aload0 dX8_isLetter_6 (g_mget fl_X8_146 mg_24 dX8_isLetter_7 (g_icmp_ge (tgt := 35) dX8_isLetter_10 (by decide) (fun h10 => g_iload2 dX8_isLetter_35 (g_if_ne (tgt := 43) dX8_isLetter_36 (by decide) (fun h36 => g_iconst ki_0 dX8_isLetter_43 (g_zret rfl (by first | exact g_bi01 _ | exact Or.inl rfl | exact Or.inr rfl) dX8_isLetter_44 (Nat.le_of_ble_eq_true rfl) (Nat.le_of_ble_eq_true rfl) ?q44)) (fun h36 => g_iconst ki_1 dX8_isLetter_39 (g_goto (tgt := 44) dX8_isLetter_40 (by decide) (g_zret rfl (by first | exact g_bi01 _ | exact Or.inl rfl | exact Or.inr rfl) dX8_isLetter_44 (Nat.le_of_ble_eq_true rfl) (Nat.le_of_ble_eq_true rfl) ?q44'))))) (fun h10 => g_aload0 dX8_isLetter_13 (g_aload0 dX8_isLetter_14 (g_mget fl_X8_152 mg_26 dX8_isLetter_15 (g_iload1 dX8_isLetter_18 (g_iadd dX8_isLetter_19 (?c20))))))))))))
  case q44 =>
    refine hQ _ _ ⟨?_, rfl⟩
    rw [if_neg (by omega), g_bi0 (by omega)]
  case q44' =>
    refine hQ _ _ ⟨?_, rfl⟩
    rw [if_neg (by omega), g_bi1 (by omega)]
  case c20 =>
    rw [hs, nI_add]
    refine g_V1i dX8_isLetter_20 mv_X8_149 0 rfl rfl rfl (Nat.le_of_ble_eq_true rfl) (Nat.le_of_ble_eq_true rfl) (c_X8_byteAt (d := d) hN hB (p := s + i) (by omega)) (fun r1 w1 hq => ?_)
    obtain ⟨rfl, rfl⟩ := hq
    have hlt : s + i < e := by omega
    obtain ⟨x, hx⟩ : ∃ x, B[s + i]? = some x := ⟨B[s + i], List.getElem?_eq_getElem (by omega)⟩
    have hx2 := h3 x (List.mem_of_getElem? hx)
    have hbx : (byI B (s + i)).toInt = (x : Int) := by rw [byI_s hx, t_nI (by omega)]
    have hgx : B.getD (s + i) 0 = x := by rw [List.getD_eq_getElem?_getD, hx]; rfl
    rw [if_pos hlt, hgx] at hQ
    refine g_iload2 dX8_isLetter_23 (g_icmp_ne (tgt := 31) dX8_isLetter_24 (by decide) (fun h24 => g_iconst ki_0 dX8_isLetter_31 (g_goto (tgt := 44) dX8_isLetter_32 (by decide) (g_zret rfl (by first | exact g_bi01 _ | exact Or.inl rfl | exact Or.inr rfl) dX8_isLetter_44 (Nat.le_of_ble_eq_true rfl) (Nat.le_of_ble_eq_true rfl) ?q44_2))) (fun h24 => g_iconst ki_1 dX8_isLetter_27 (g_goto (tgt := 44) dX8_isLetter_28 (by decide) (g_zret rfl (by first | exact g_bi01 _ | exact Or.inl rfl | exact Or.inr rfl) dX8_isLetter_44 (Nat.le_of_ble_eq_true rfl) (Nat.le_of_ble_eq_true rfl) ?q44_2'))))
    case q44_2 => exact hQ _ _ ⟨by rw [g_bi0 (by omega)], rfl⟩
    case q44_2' => exact hQ _ _ ⟨by rw [g_bi1 (by omega)], rfl⟩
theorem wlet_in {s e : Nat} (heB : e ≤ B.length) (hse : s ≤ e) {j : Nat} (hj : j < 12) (h : slc B s e = wrd j) : e ≤ s + 8 ∧ ∀ i, i < 8 → (nI ((wrd j).getD i 0)).toInt = if s + i < e then ((B.getD (s + i) 0 : Nat) : Int) else 0 := by
  have hl := slc_len (s := s) heB
  obtain ⟨p1, p2⟩ := wrd_pad j hj
  have hwl : (wrd j).length = e - s := by rw [← h, hl]
  refine ⟨by omega, fun i hi => ?_⟩
  by_cases q : s + i < e
  · rw [if_pos q]
    have h1 : (slc B s e)[i]? = B[s + i]? := slc_get (by omega)
    rw [h] at h1
    have h2 : (wrd j).getD i 0 = B.getD (s + i) 0 := by rw [List.getD_eq_getElem?_getD, List.getD_eq_getElem?_getD, h1]
    have := p2 i (by omega)
    rw [← h2, t_nI (by omega)]
  · rw [if_neg q]
    have : (wrd j).getD i 0 = 0 := by rw [List.getD_eq_getElem?_getD, List.getElem?_eq_none (by omega)]; rfl
    rw [this]; decide
theorem wlet_out {s e : Nat} (heB : e ≤ B.length) (hse : s ≤ e) (hall : ∀ x ∈ slc B s e, letB x = true) {j : Nat} (hj : j < 12) (h8 : e ≤ s + 8) (h : ∀ i, i < 8 → (nI ((wrd j).getD i 0)).toInt = if s + i < e then ((B.getD (s + i) 0 : Nat) : Int) else 0) : slc B s e = wrd j := by
  have hl := slc_len (s := s) heB
  obtain ⟨p1, p2⟩ := wrd_pad j hj
  have hw : ∀ i, i < 8 → (nI ((wrd j).getD i 0)).toInt = ((wrd j).getD i 0 : Nat) := by
    intro i hi
    by_cases q : i < (wrd j).length
    · have := p2 i q
      rw [t_nI (by omega)]
    · have : (wrd j).getD i 0 = 0 := by rw [List.getD_eq_getElem?_getD, List.getElem?_eq_none (by omega)]; rfl
      rw [this]; decide
  have hbl : ∀ i, s + i < e → 97 ≤ B.getD (s + i) 0 := by
    intro i hi
    have h1 : (slc B s e)[i]? = B[s + i]? := slc_get (by omega)
    obtain ⟨x, hx⟩ : ∃ x, B[s + i]? = some x := ⟨B[s + i], List.getElem?_eq_getElem (by omega)⟩
    rw [hx] at h1
    have h2 := hall x (List.mem_of_getElem? h1)
    have h3 : 97 ≤ x ∧ x ≤ 122 := of_decide_eq_true h2
    rw [List.getD_eq_getElem?_getD, hx]; exact h3.1
  have hlen : (wrd j).length = e - s := by
    apply Nat.le_antisymm
    · apply Nat.le_of_not_lt
      intro q
      have h1 := h (e - s) (by omega)
      rw [hw _ (by omega), if_neg (by omega)] at h1
      have := p2 (e - s) q
      omega
    · apply Nat.le_of_not_lt
      intro q
      have h1 := h (wrd j).length (by omega)
      have h2 := hbl (wrd j).length (by omega)
      rw [hw _ (by omega), if_pos (by omega), List.getD_eq_getElem?_getD, List.getElem?_eq_none (Nat.le_refl _)] at h1
      have h3 : ((none : Option Nat).getD 0) = 0 := rfl
      rw [h3] at h1
      omega
  apply List.ext_getElem?
  intro i
  by_cases q : i < e - s
  · rw [slc_get q]
    have h1 := h i (by omega)
    rw [hw i (by omega), if_pos (by omega)] at h1
    have h2 : (wrd j).getD i 0 = B.getD (s + i) 0 := by omega
    rw [getD_at (l := B) (i := s + i) (by omega), getD_at (l := wrd j) (i := i) (by omega), h2]
  · rw [List.getElem?_eq_none (by omega), List.getElem?_eq_none (by omega)]
set_option maxRecDepth 20000 in
set_option maxHeartbeats 2000000 in
theorem c_X8_isWord (hN : g_N E) (hB : MyB B ti v f) (hT : MyT B P (v 25) (v 26) (v 24) t) (h29 : v 29 = 0) {j : Nat} (hj : j < 12) : g_Ci E mX8_isWord (d + 3) [.ref (b 0), .int (nI ((wrd j).getD 0 0)), .int (nI ((wrd j).getD 1 0)), .int (nI ((wrd j).getD 2 0)), .int (nI ((wrd j).getD 3 0)), .int (nI ((wrd j).getD 4 0)), .int (nI ((wrd j).getD 5 0)), .int (nI ((wrd j).getD 6 0)), .int (nI ((wrd j).getD 7 0))] (mW E b v t f) (fun z w => z = g_bi (P.1 = j) ∧ w = mW E b v t f) := by
  have hB160 := hB.1
  refine g_enterI hN.1 (by decide) [some (.ref (b 0)), some (.int (nI ((wrd j).getD 0 0))), some (.int (nI ((wrd j).getD 1 0))), some (.int (nI ((wrd j).getD 2 0))), some (.int (nI ((wrd j).getD 3 0))), some (.int (nI ((wrd j).getD 4 0))), some (.int (nI ((wrd j).getD 5 0))), some (.int (nI ((wrd j).getD 6 0))), some (.int (nI ((wrd j).getD 7 0)))] rfl (Nat.le_of_ble_eq_true rfl) (fun A Q hQ => ?_)
  have tc0 := tc_0; have tc1 := tc_1; have tc2 := tc_2; have tc3 := tc_3; have tc4 := tc_4; have tc5 := tc_5; have tc6 := tc_6; have tc7 := tc_7; have tc8 := tc_8
  have e29 : (v 29).toInt = 0 := by rw [h29]; decide
  obtain ⟨ha, h1, h2, hcase⟩ := hT
  have e26 : (v 26).toInt = (P.2.1 : Int) := by rw [ha, t_nI (by omega)]
  have e268 : (v 26 + 8).toInt = (P.2.1 : Int) + 8 := by rw [t_add (by rw [tc8]; omega) (by rw [tc8]; omega), e26, tc8]
  by_cases hk : v 25 = 1
  · have hw : v 24 = nI P.2.2.1 ∧ P.2.1 < P.2.2.1 ∧ P.1 = wcode (slc B P.2.1 P.2.2.1) ∧ (∀ x ∈ slc B P.2.1 P.2.2.1, letB x = true) := by
      rcases hcase with ⟨q1, q2, -⟩ | ⟨q1, q2⟩ | ⟨q1, q2, -⟩ | ⟨c', j', q1, q2⟩ | ⟨q1, q2⟩
      · rw [q2] at hk; cases hk
      · exact q2
      · rw [q2] at hk; cases hk
      · rw [q1] at hk; cases hk
      · rw [q2] at hk; cases hk
    obtain ⟨he, hlt, hwc, hall⟩ := hw
    have e24 : (v 24).toInt = (P.2.2.1 : Int) := by rw [he, t_nI (by omega)]
    have e25 : (v 25).toInt = 1 := by rw [hk]; decide
    have key : P.1 = j ↔ slc B P.2.1 P.2.2.1 = wrd j := by rw [hwc]; exact wcode_iff hj
    have no : ¬ (slc B P.2.1 P.2.2.1 = wrd j) → Q (some (.int 0)) (mW E b v t f) := fun hh => hQ _ _ ⟨by rw [g_bi0 (fun q => hh (key.mp q))], rfl⟩
    have lt := fun i (hi : i < 8) (q : ¬ ((nI ((wrd j).getD i 0)).toInt = if P.2.1 + i < P.2.2.1 then ((B.getD (P.2.1 + i) 0 : Nat) : Int) else 0)) => no (fun hh => q ((wlet_in h2 (by omega) hj hh).2 i hi))
    have cl := fun i (hi : i < 8) (c : Int32) => c_X8_isLetter (E := E) (b := b) (t := t) (d := d) hN hB ha he (by omega) h2 hi c
    refine g_aload0 dX8_isWord_0 (g_mget fl_X8_170 mg_29 dX8_isWord_1 (g_if_ne (tgt := 112) dX8_isWord_4 (by decide) (fun h4 => g_iconst ki_0 dX8_isWord_112 (g_zret rfl (by first | exact g_bi01 _ | exact Or.inl rfl | exact Or.inr rfl) dX8_isWord_113 (Nat.le_of_ble_eq_true rfl) (Nat.le_of_ble_eq_true rfl) ?q113)) (fun h4 => g_aload0 dX8_isWord_7 (g_mget fl_X8_155 mg_25 dX8_isWord_8 (g_iconst ki_1 dX8_isWord_11 (g_icmp_ne (tgt := 112) dX8_isWord_12 (by decide) (fun h12 => g_iconst ki_0 dX8_isWord_112 (g_zret rfl (by first | exact g_bi01 _ | exact Or.inl rfl | exact Or.inr rfl) dX8_isWord_113 (Nat.le_of_ble_eq_true rfl) (Nat.le_of_ble_eq_true rfl) ?q113')) (fun h12 => g_aload0 dX8_isWord_15 (g_mget fl_X8_146 mg_24 dX8_isWord_16 (g_aload0 dX8_isWord_19 (g_mget fl_X8_152 mg_26 dX8_isWord_20 (g_bipush kb_8 dX8_isWord_23 (g_iadd dX8_isWord_25 (g_icmp_gt (tgt := 112) dX8_isWord_26 (by decide) (fun h26 => g_iconst ki_0 dX8_isWord_112 (g_zret rfl (by first | exact g_bi01 _ | exact Or.inl rfl | exact Or.inr rfl) dX8_isWord_113 (Nat.le_of_ble_eq_true rfl) (Nat.le_of_ble_eq_true rfl) ?q113'')) (fun h26 => g_aload0 dX8_isWord_29 (g_iconst ki_0 dX8_isWord_30 (g_iload1 dX8_isWord_31 (?c32)))))))))))))))))
    all_goals try omega
    case q113'' => exact no (fun hh => by have := (wlet_in h2 (by omega) hj hh).1; omega)
    case c32 =>
      refine g_V2i dX8_isWord_32 mv_X8_177 0 rfl rfl rfl (Nat.le_of_ble_eq_true rfl) (Nat.le_of_ble_eq_true rfl) (cl 0 (by omega) _) (fun r1 w1 hq => ?_)
      obtain ⟨rfl, rfl⟩ := hq
      refine g_if_eq (tgt := 112) dX8_isWord_35 (by decide) (fun h35 => g_iconst ki_0 dX8_isWord_112 (g_zret rfl (by first | exact g_bi01 _ | exact Or.inl rfl | exact Or.inr rfl) dX8_isWord_113 (Nat.le_of_ble_eq_true rfl) (Nat.le_of_ble_eq_true rfl) ?q113_2)) (fun h35 => g_aload0 dX8_isWord_38 (g_iconst ki_1 dX8_isWord_39 (g_iload2 dX8_isWord_40 (?c41_2))))
      case q113_2 => exact lt 0 (by omega) (g_biz.mp h35)
      case c41_2 =>
        rw [g_biz, Classical.not_not] at h35
        refine g_V2i dX8_isWord_41 mv_X8_177 0 rfl rfl rfl (Nat.le_of_ble_eq_true rfl) (Nat.le_of_ble_eq_true rfl) (cl 1 (by omega) _) (fun r1 w1 hq => ?_)
        obtain ⟨rfl, rfl⟩ := hq
        refine g_if_eq (tgt := 112) dX8_isWord_44 (by decide) (fun h44 => g_iconst ki_0 dX8_isWord_112 (g_zret rfl (by first | exact g_bi01 _ | exact Or.inl rfl | exact Or.inr rfl) dX8_isWord_113 (Nat.le_of_ble_eq_true rfl) (Nat.le_of_ble_eq_true rfl) ?q113_3)) (fun h44 => g_aload0 dX8_isWord_47 (g_iconst ki_2 dX8_isWord_48 (g_iload3 dX8_isWord_49 (?c50_3))))
        case q113_3 => exact lt 1 (by omega) (g_biz.mp h44)
        case c50_3 =>
          rw [g_biz, Classical.not_not] at h44
          refine g_V2i dX8_isWord_50 mv_X8_177 0 rfl rfl rfl (Nat.le_of_ble_eq_true rfl) (Nat.le_of_ble_eq_true rfl) (cl 2 (by omega) _) (fun r1 w1 hq => ?_)
          obtain ⟨rfl, rfl⟩ := hq
          refine g_if_eq (tgt := 112) dX8_isWord_53 (by decide) (fun h53 => g_iconst ki_0 dX8_isWord_112 (g_zret rfl (by first | exact g_bi01 _ | exact Or.inl rfl | exact Or.inr rfl) dX8_isWord_113 (Nat.le_of_ble_eq_true rfl) (Nat.le_of_ble_eq_true rfl) ?q113_4)) (fun h53 => g_aload0 dX8_isWord_56 (g_iconst ki_3 dX8_isWord_57 (g_iload4 dX8_isWord_58 (?c60_4))))
          case q113_4 => exact lt 2 (by omega) (g_biz.mp h53)
          case c60_4 =>
            rw [g_biz, Classical.not_not] at h53
            refine g_V2i dX8_isWord_60 mv_X8_177 0 rfl rfl rfl (Nat.le_of_ble_eq_true rfl) (Nat.le_of_ble_eq_true rfl) (cl 3 (by omega) _) (fun r1 w1 hq => ?_)
            obtain ⟨rfl, rfl⟩ := hq
            refine g_if_eq (tgt := 112) dX8_isWord_63 (by decide) (fun h63 => g_iconst ki_0 dX8_isWord_112 (g_zret rfl (by first | exact g_bi01 _ | exact Or.inl rfl | exact Or.inr rfl) dX8_isWord_113 (Nat.le_of_ble_eq_true rfl) (Nat.le_of_ble_eq_true rfl) ?q113_5)) (fun h63 => g_aload0 dX8_isWord_66 (g_iconst ki_4 dX8_isWord_67 (g_iload5 dX8_isWord_68 (?c70_5))))
            case q113_5 => exact lt 3 (by omega) (g_biz.mp h63)
            case c70_5 =>
              rw [g_biz, Classical.not_not] at h63
              refine g_V2i dX8_isWord_70 mv_X8_177 0 rfl rfl rfl (Nat.le_of_ble_eq_true rfl) (Nat.le_of_ble_eq_true rfl) (cl 4 (by omega) _) (fun r1 w1 hq => ?_)
              obtain ⟨rfl, rfl⟩ := hq
              refine g_if_eq (tgt := 112) dX8_isWord_73 (by decide) (fun h73 => g_iconst ki_0 dX8_isWord_112 (g_zret rfl (by first | exact g_bi01 _ | exact Or.inl rfl | exact Or.inr rfl) dX8_isWord_113 (Nat.le_of_ble_eq_true rfl) (Nat.le_of_ble_eq_true rfl) ?q113_6)) (fun h73 => g_aload0 dX8_isWord_76 (g_iconst ki_5 dX8_isWord_77 (g_iload6 dX8_isWord_78 (?c80_6))))
              case q113_6 => exact lt 4 (by omega) (g_biz.mp h73)
              case c80_6 =>
                rw [g_biz, Classical.not_not] at h73
                refine g_V2i dX8_isWord_80 mv_X8_177 0 rfl rfl rfl (Nat.le_of_ble_eq_true rfl) (Nat.le_of_ble_eq_true rfl) (cl 5 (by omega) _) (fun r1 w1 hq => ?_)
                obtain ⟨rfl, rfl⟩ := hq
                refine g_if_eq (tgt := 112) dX8_isWord_83 (by decide) (fun h83 => g_iconst ki_0 dX8_isWord_112 (g_zret rfl (by first | exact g_bi01 _ | exact Or.inl rfl | exact Or.inr rfl) dX8_isWord_113 (Nat.le_of_ble_eq_true rfl) (Nat.le_of_ble_eq_true rfl) ?q113_7)) (fun h83 => g_aload0 dX8_isWord_86 (g_bipush kb_6 dX8_isWord_87 (g_iload7 dX8_isWord_89 (?c91_7))))
                case q113_7 => exact lt 5 (by omega) (g_biz.mp h83)
                case c91_7 =>
                  rw [g_biz, Classical.not_not] at h83
                  refine g_V2i dX8_isWord_91 mv_X8_177 0 rfl rfl rfl (Nat.le_of_ble_eq_true rfl) (Nat.le_of_ble_eq_true rfl) (cl 6 (by omega) _) (fun r1 w1 hq => ?_)
                  obtain ⟨rfl, rfl⟩ := hq
                  refine g_if_eq (tgt := 112) dX8_isWord_94 (by decide) (fun h94 => g_iconst ki_0 dX8_isWord_112 (g_zret rfl (by first | exact g_bi01 _ | exact Or.inl rfl | exact Or.inr rfl) dX8_isWord_113 (Nat.le_of_ble_eq_true rfl) (Nat.le_of_ble_eq_true rfl) ?q113_8)) (fun h94 => g_aload0 dX8_isWord_97 (g_bipush kb_7 dX8_isWord_98 (g_iload8 dX8_isWord_100 (?c102_8))))
                  case q113_8 => exact lt 6 (by omega) (g_biz.mp h94)
                  case c102_8 =>
                    rw [g_biz, Classical.not_not] at h94
                    refine g_V2i dX8_isWord_102 mv_X8_177 0 rfl rfl rfl (Nat.le_of_ble_eq_true rfl) (Nat.le_of_ble_eq_true rfl) (cl 7 (by omega) _) (fun r1 w1 hq => ?_)
                    obtain ⟨rfl, rfl⟩ := hq
                    refine g_if_eq (tgt := 112) dX8_isWord_105 (by decide) (fun h105 => g_iconst ki_0 dX8_isWord_112 (g_zret rfl (by first | exact g_bi01 _ | exact Or.inl rfl | exact Or.inr rfl) dX8_isWord_113 (Nat.le_of_ble_eq_true rfl) (Nat.le_of_ble_eq_true rfl) ?q113_9)) (fun h105 => g_iconst ki_1 dX8_isWord_108 (g_goto (tgt := 113) dX8_isWord_109 (by decide) (g_zret rfl (by first | exact g_bi01 _ | exact Or.inl rfl | exact Or.inr rfl) dX8_isWord_113 (Nat.le_of_ble_eq_true rfl) (Nat.le_of_ble_eq_true rfl) ?q113_9')))
                    case q113_9 => exact lt 7 (by omega) (g_biz.mp h105)
                    case q113_9' =>
                      rw [g_biz, Classical.not_not] at h105
                      refine hQ _ _ ⟨?_, rfl⟩
                      rw [g_bi1 (key.mpr ?_)]
                      refine wlet_out h2 (by omega) hall hj (by omega) (fun i hi => ?_)
                      match i, hi with
                      | 0, _ => exact h35
                      | 1, _ => exact h44
                      | 2, _ => exact h53
                      | 3, _ => exact h63
                      | 4, _ => exact h73
                      | 5, _ => exact h83
                      | 6, _ => exact h94
                      | 7, _ => exact h105
                      | i + 8, hi => omega
  · have hne : ¬ P.1 = j := by
      rcases hcase with ⟨q1, q2, -⟩ | ⟨q1, q2⟩ | ⟨q1, q2, -⟩ | ⟨c', j', q1, q2, q3, q4, q5, q6⟩ | ⟨q1, q2⟩
      · omega
      · exact absurd q1 hk
      · omega
      · omega
      · omega
    have e25 : ¬ (v 25).toInt = 1 := fun q => hk (Int32.toInt_inj.mp (by rw [q]; decide))
    refine g_aload0 dX8_isWord_0 (g_mget fl_X8_170 mg_29 dX8_isWord_1 (g_if_ne (tgt := 112) dX8_isWord_4 (by decide) (fun h4 => g_iconst ki_0 dX8_isWord_112 (g_zret rfl (by first | exact g_bi01 _ | exact Or.inl rfl | exact Or.inr rfl) dX8_isWord_113 (Nat.le_of_ble_eq_true rfl) (Nat.le_of_ble_eq_true rfl) ?q113_10)) (fun h4 => g_aload0 dX8_isWord_7 (g_mget fl_X8_155 mg_25 dX8_isWord_8 (g_iconst ki_1 dX8_isWord_11 (g_icmp_ne (tgt := 112) dX8_isWord_12 (by decide) (fun h12 => g_iconst ki_0 dX8_isWord_112 (g_zret rfl (by first | exact g_bi01 _ | exact Or.inl rfl | exact Or.inr rfl) dX8_isWord_113 (Nat.le_of_ble_eq_true rfl) (Nat.le_of_ble_eq_true rfl) ?q113_10')) (fun h12 => g_aload0 dX8_isWord_15 (g_mget fl_X8_146 mg_24 dX8_isWord_16 (g_aload0 dX8_isWord_19 (g_mget fl_X8_152 mg_26 dX8_isWord_20 (g_bipush kb_8 dX8_isWord_23 (g_iadd dX8_isWord_25 (g_icmp_gt (tgt := 112) dX8_isWord_26 (by decide) (fun h26 => g_iconst ki_0 dX8_isWord_112 (g_zret rfl (by first | exact g_bi01 _ | exact Or.inl rfl | exact Or.inr rfl) dX8_isWord_113 (Nat.le_of_ble_eq_true rfl) (Nat.le_of_ble_eq_true rfl) ?q113_10'')) (fun h26 => g_aload0 dX8_isWord_29 (g_iconst ki_0 dX8_isWord_30 (g_iload1 dX8_isWord_31 (?c32_10)))))))))))))))))
    all_goals try omega
    all_goals exact hQ _ _ ⟨by rw [g_bi0 hne], rfl⟩
theorem c_isW0 (hN : g_N E) (hB : MyB B ti v f) (hT : MyT B P (v 25) (v 26) (v 24) t) (h29 : v 29 = 0) : g_Ci E mX8_isWord (d + 3) [.ref (b 0), .int 111, .int 110, .int 101, .int 0, .int 0, .int 0, .int 0, .int 0] (mW E b v t f) (fun z w => z = g_bi (P.1 = 0) ∧ w = mW E b v t f) := c_X8_isWord hN hB hT h29 (j := 0) (by omega)
theorem c_isW1 (hN : g_N E) (hB : MyB B ti v f) (hT : MyT B P (v 25) (v 26) (v 24) t) (h29 : v 29 = 0) : g_Ci E mX8_isWord (d + 3) [.ref (b 0), .int 111, .int 116, .int 104, .int 101, .int 114, .int 0, .int 0, .int 0] (mW E b v t f) (fun z w => z = g_bi (P.1 = 1) ∧ w = mW E b v t f) := c_X8_isWord hN hB hT h29 (j := 1) (by omega)
theorem c_isW2 (hN : g_N E) (hB : MyB B ti v f) (hT : MyT B P (v 25) (v 26) (v 24) t) (h29 : v 29 = 0) : g_Ci E mX8_isWord (d + 3) [.ref (b 0), .int 112, .int 97, .int 99, .int 101, .int 0, .int 0, .int 0, .int 0] (mW E b v t f) (fun z w => z = g_bi (P.1 = 2) ∧ w = mW E b v t f) := c_X8_isWord hN hB hT h29 (j := 2) (by omega)
theorem c_isW3 (hN : g_N E) (hB : MyB B ti v f) (hT : MyT B P (v 25) (v 26) (v 24) t) (h29 : v 29 = 0) : g_Ci E mX8_isWord (d + 3) [.ref (b 0), .int 110, .int 101, .int 97, .int 114, .int 0, .int 0, .int 0, .int 0] (mW E b v t f) (fun z w => z = g_bi (P.1 = 3) ∧ w = mW E b v t f) := c_X8_isWord hN hB hT h29 (j := 3) (by omega)
theorem c_isW4 (hN : g_N E) (hB : MyB B ti v f) (hT : MyT B P (v 25) (v 26) (v 24) t) (h29 : v 29 = 0) : g_Ci E mX8_isWord (d + 3) [.ref (b 0), .int 109, .int 97, .int 110, .int 121, .int 0, .int 0, .int 0, .int 0] (mW E b v t f) (fun z w => z = g_bi (P.1 = 4) ∧ w = mW E b v t f) := c_X8_isWord hN hB hT h29 (j := 4) (by omega)
theorem c_isW5 (hN : g_N E) (hB : MyB B ti v f) (hT : MyT B P (v 25) (v 26) (v 24) t) (h29 : v 29 = 0) : g_Ci E mX8_isWord (d + 3) [.ref (b 0), .int 104, .int 97, .int 110, .int 100, .int 0, .int 0, .int 0, .int 0] (mW E b v t f) (fun z w => z = g_bi (P.1 = 5) ∧ w = mW E b v t f) := c_X8_isWord hN hB hT h29 (j := 5) (by omega)
theorem c_isW6 (hN : g_N E) (hB : MyB B ti v f) (hT : MyT B P (v 25) (v 26) (v 24) t) (h29 : v 29 = 0) : g_Ci E mX8_isWord (d + 3) [.ref (b 0), .int 111, .int 100, .int 100, .int 115, .int 0, .int 0, .int 0, .int 0] (mW E b v t f) (fun z w => z = g_bi (P.1 = 6) ∧ w = mW E b v t f) := c_X8_isWord hN hB hT h29 (j := 6) (by omega)
theorem c_isW7 (hN : g_N E) (hB : MyB B ti v f) (hT : MyT B P (v 25) (v 26) (v 24) t) (h29 : v 29 = 0) : g_Ci E mX8_isWord (d + 3) [.ref (b 0), .int 119, .int 111, .int 114, .int 116, .int 104, .int 0, .int 0, .int 0] (mW E b v t f) (fun z w => z = g_bi (P.1 = 7) ∧ w = mW E b v t f) := c_X8_isWord hN hB hT h29 (j := 7) (by omega)
theorem c_isW8 (hN : g_N E) (hB : MyB B ti v f) (hT : MyT B P (v 25) (v 26) (v 24) t) (h29 : v 29 = 0) : g_Ci E mX8_isWord (d + 3) [.ref (b 0), .int 109, .int 105, .int 110, .int 100, .int 115, .int 0, .int 0, .int 0] (mW E b v t f) (fun z w => z = g_bi (P.1 = 8) ∧ w = mW E b v t f) := c_X8_isWord hN hB hT h29 (j := 8) (by omega)
theorem c_isW9 (hN : g_N E) (hB : MyB B ti v f) (hT : MyT B P (v 25) (v 26) (v 24) t) (h29 : v 29 = 0) : g_Ci E mX8_isWord (d + 3) [.ref (b 0), .int 111, .int 114, .int 0, .int 0, .int 0, .int 0, .int 0, .int 0] (mW E b v t f) (fun z w => z = g_bi (P.1 = 9) ∧ w = mW E b v t f) := c_X8_isWord hN hB hT h29 (j := 9) (by omega)
theorem c_isW10 (hN : g_N E) (hB : MyB B ti v f) (hT : MyT B P (v 25) (v 26) (v 24) t) (h29 : v 29 = 0) : g_Ci E mX8_isWord (d + 3) [.ref (b 0), .int 97, .int 110, .int 100, .int 0, .int 0, .int 0, .int 0, .int 0] (mW E b v t f) (fun z w => z = g_bi (P.1 = 10) ∧ w = mW E b v t f) := c_X8_isWord hN hB hT h29 (j := 10) (by omega)
theorem c_isW11 (hN : g_N E) (hB : MyB B ti v f) (hT : MyT B P (v 25) (v 26) (v 24) t) (h29 : v 29 = 0) : g_Ci E mX8_isWord (d + 3) [.ref (b 0), .int 110, .int 111, .int 116, .int 0, .int 0, .int 0, .int 0, .int 0] (mW E b v t f) (fun z w => z = g_bi (P.1 = 11) ∧ w = mW E b v t f) := c_X8_isWord hN hB hT h29 (j := 11) (by omega)
end S76
