def Txt (E : GE) (a : Nat → Nat) (k : Nat) (C : List Int32) (e : Nat → Nat) (w : va_W) : Prop := C.length ≤ 160 ∧ ∃ code ends stk h, w = txtW E a k code ends stk (nI C.length) h ∧ (∀ (i : Nat) (x : Int32), C[i]? = some x → code i = x) ∧ ∀ p, p < 3 → ends p = nI (e p) ∧ e p ≤ 160
theorem Txt.mk {E : GE} {a : Nat → Nat} {k : Nat} {C : List Int32} {e : Nat → Nat} {w : va_W} {code ends stk : Nat → Int32} {n h : Int32} (hw : w = txtW E a k code ends stk n h) (hn : n = nI C.length) (hl : C.length ≤ 160) (h1 : ∀ (i : Nat) (x : Int32), C[i]? = some x → code i = x) (h2 : ∀ p, p < 3 → ends p = nI (e p) ∧ e p ≤ 160) : Txt E a k C e w := ⟨hl, code, ends, stk, h, by rw [hw, hn], h1, h2⟩
def updN (e : Nat → Nat) (p v : Nat) : Nat → Nat := fun j => if j = p then v else e j
def addT (C : List Int32) (t : Int32) : List Int32 := if C.length < 160 then C ++ [t] else C
/-- t steps from i on -/
def rpnR (C : List Int32) (nm : Nat → Int32) : Nat → Nat → List Int32 → List Int32
  | _, 0, s => s
  | i, t + 1, s => rpnR C nm (i + 1) t (work1 nm s (C.getD i 0))
def rpnV (C : List Int32) (nm : Nat → Int32) (i j : Nat) : Int32 := popv (rpnR C nm i (j - i) [])
section S22
variable {E : GE} {d : Nat} {a : Nat → Nat} {k : Nat} {C : List Int32} {e : Nat → Nat} {w : va_W}
set_option maxRecDepth 20000 in
theorem c_clear (hN : g_N E) (hw : Txt E a k C e w) : g_Cv E mX5_clear (d + 1) [.ref (a k)] w (fun w' => Txt E a k [] e w') := by
  obtain ⟨hn, code, ends, stk, h, rfl, h1, h2⟩ := hw
  refine g_enterV hN.1 (by decide) [some (.ref (a k))] rfl (Nat.le_of_ble_eq_true rfl) (fun A Q hQ => ?_)
  have tc0 := tc_0
  refine g_aload0 dX5_clear_0 (g_iconst ki_0 dX5_clear_1 (g_put fl_X5_18 fp_5_2 0 rfl rfl rfl (Nat.le_of_ble_eq_true rfl) dX5_clear_2 (g_vret rfl dX5_clear_5 (Nat.le_of_ble_eq_true rfl) (Nat.le_of_ble_eq_true rfl) ?q5)))
  exact hQ _ (Txt.mk rfl rfl (Nat.zero_le _) (fun i x h => by simp at h) h2)
set_option maxRecDepth 20000 in
theorem c_addToken (hN : g_N E) (hw : Txt E a k C e w) (t : Int32) : g_Cv E mX5_addToken (d + 1) [.ref (a k), .int t] w (fun w' => Txt E a k (addT C t) e w') := by
  obtain ⟨hn, code, ends, stk, h, rfl, h1, h2⟩ := hw
  refine g_enterV hN.1 (by decide) [some (.ref (a k)), some (.int t)] rfl (Nat.le_of_ble_eq_true rfl) (fun A Q hQ => ?_)
  have tc1 := tc_1; have tc160 := tc_160
  have e1 := t_nI (n := C.length) (by omega)
  unfold addT at hQ
  refine g_aload0 dX5_addToken_0 (g_get fl_X5_18 0 rfl rfl dX5_addToken_1 (g_sipush ks_160 dX5_addToken_4 (g_icmp_ge (tgt := 30) dX5_addToken_7 (by decide) (fun h7 => g_vret rfl dX5_addToken_30 (Nat.le_of_ble_eq_true rfl) (Nat.le_of_ble_eq_true rfl) ?q30) (fun h7 => g_aload0 dX5_addToken_10 (g_get fl_X5_9 0 rfl rfl dX5_addToken_11 (g_aload0 dX5_addToken_14 (g_get fl_X5_18 0 rfl rfl dX5_addToken_15 (g_iload1 dX5_addToken_18 (g_iastore 1 rfl dX5_addToken_19 ?b19 (g_aload0 dX5_addToken_20 (g_dup dX5_addToken_21 rfl (g_get fl_X5_18 0 rfl rfl dX5_addToken_22 (g_iconst ki_1 dX5_addToken_25 (g_iadd dX5_addToken_26 (g_put fl_X5_18 fp_5_2 0 rfl rfl rfl (Nat.le_of_ble_eq_true rfl) dX5_addToken_27 (g_vret rfl dX5_addToken_30 (Nat.le_of_ble_eq_true rfl) (Nat.le_of_ble_eq_true rfl) ?q30'))))))))))))))))
  case q30 =>
    rw [if_neg (by omega)] at hQ
    exact hQ _ (Txt.mk rfl rfl hn h1 h2)
  case b19 => omega
  case q30' =>
    rw [if_pos (by omega)] at hQ
    refine hQ _ (Txt.mk rfl ?_ ?_ ?_ h2)
    · rw [List.length_append]; exact nI_1 _
    · rw [List.length_append]; show C.length + 1 ≤ 160; omega
    · intro i x hi
      rw [e1, Int.toNat_natCast]
      by_cases hil : i < C.length
      · rw [List.getElem?_append_left hil] at hi
        rw [upd_o (Nat.ne_of_lt hil)]
        exact h1 i x hi
      · have hlt := (List.getElem?_eq_some_iff.mp hi).1
        rw [List.length_append, List.length_singleton] at hlt
        have : i = C.length := by omega
        subst this
        rw [List.getElem?_append_right (Nat.le_refl _), Nat.sub_self] at hi
        cases hi
        rw [upd_s]
set_option maxRecDepth 20000 in
theorem c_addNumber (hN : g_N E) (hw : Txt E a k C e w) (t : Int32) : g_Cv E mX5_addNumber (d + 2) [.ref (a k), .int t] w (fun w' => Txt E a k (addT C (32 + t)) e w') := by
  have hw' := hw
  obtain ⟨hn, code, ends, stk, h, rfl, h1, h2⟩ := hw
  refine g_enterV hN.1 (by decide) [some (.ref (a k)), some (.int t)] rfl (Nat.le_of_ble_eq_true rfl) (fun A Q hQ => ?_)
  have tc32 := tc_32
  refine g_aload0 dX5_addNumber_0 (g_bipush kb_32 dX5_addNumber_1 (g_iload1 dX5_addNumber_3 (g_iadd dX5_addNumber_4 (?c5))))
  refine g_V1v dX5_addNumber_5 mv_X5_28 0 rfl rfl rfl (Nat.le_of_ble_eq_true rfl) (Nat.le_of_ble_eq_true rfl) (c_addToken hN hw' (32 + t)) (fun w1 hq => ?_)
  refine g_vret rfl dX5_addNumber_8 (Nat.le_of_ble_eq_true rfl) (Nat.le_of_ble_eq_true rfl) ?q8_2
  exact hQ _ hq
set_option maxRecDepth 20000 in
theorem c_endPart (hN : g_N E) (hw : Txt E a k C e w) {p : Nat} (hp : p < 3) : g_Cv E mX5_endPart (d + 2) [.ref (a k), .int (nI p)] w (fun w' => Txt E a k C (updN e p C.length) w') := by
  obtain ⟨hn, code, ends, stk, h, rfl, h1, h2⟩ := hw
  refine g_enterV hN.1 (by decide) [some (.ref (a k)), some (.int (nI p))] rfl (Nat.le_of_ble_eq_true rfl) (fun A Q hQ => ?_)
  have tc0 := tc_0; have tc2 := tc_2
  have e1 := t_nI (n := p) (by omega)
  have hb := g_biz (p := ((0 : Int32).toInt ≤ (nI p).toInt ∧ (nI p).toInt ≤ (2 : Int32).toInt))
  refine g_iload1 dX5_endPart_0 (g_iconst ki_0 dX5_endPart_1 (g_iconst ki_2 dX5_endPart_2 (r_X7_isWithinN hN (mn_X5_32 hN) dX5_endPart_3 (Nat.le_of_ble_eq_true rfl) (Nat.le_of_ble_eq_true rfl) rfl (g_if_eq (tgt := 19) dX5_endPart_6 (by decide) (fun h6 => g_vret rfl dX5_endPart_19 (Nat.le_of_ble_eq_true rfl) (Nat.le_of_ble_eq_true rfl) ?q19) (fun h6 => g_aload0 dX5_endPart_9 (g_get fl_X5_15 0 rfl rfl dX5_endPart_10 (g_iload1 dX5_endPart_13 (g_aload0 dX5_endPart_14 (g_get fl_X5_18 0 rfl rfl dX5_endPart_15 (g_iastore 2 rfl dX5_endPart_18 ?b18 (g_vret rfl dX5_endPart_19 (Nat.le_of_ble_eq_true rfl) (Nat.le_of_ble_eq_true rfl) ?q19')))))))))))
  case q19 => omega
  case b18 => omega
  case q19' =>
    refine hQ _ (Txt.mk rfl rfl hn h1 ?_)
    intro j hj
    rw [e1, Int.toNat_natCast]
    unfold updN
    by_cases hjp : j = p
    · subst hjp; rw [upd_s, if_pos rfl]; exact ⟨rfl, hn⟩
    · rw [upd_o hjp, if_neg hjp]; exact h2 j hj
set_option maxRecDepth 20000 in
set_option maxHeartbeats 1000000 in
theorem c_txtBecome (hN : g_N E) {b : Nat → Nat} {k2 : Nat} {C2 : List Int32} {e2 : Nat → Nat} {w2 : va_W} (hw : Txt E a k C e w) (hw2 : Txt E b k2 C2 e2 w2) : g_Cv E mX5_become (d + 1) [.ref (a k), .ref (b k2)] (w ++ w2) (fun w' => ∃ w1, Txt E a k C2 e2 w1 ∧ w' = w1 ++ w2) := by
  obtain ⟨hn, code, ends, stk, h, rfl, h1, h2⟩ := hw
  obtain ⟨hn2, code2, ends2, stk2, h_2, rfl, h12, h22⟩ := hw2
  refine g_enterV hN.1 (by decide) [some (.ref (a k)), some (.ref (b k2)), none] rfl (Nat.le_of_ble_eq_true rfl) (fun A Q hQ => ?_)
  have tc0 := tc_0; have tc1 := tc_1; have tc3 := tc_3
  have e1 := t_nI (n := C2.length) (by omega)
  have loop2 : ∀ t i, i + t = 3 → G E mX5_become (d + 1) 0 0 A Q 0 0 38 [some (.ref (a k)), some (.ref (b k2)), some (.int (nI i))] [] (txtW E a k (cpf code code2 C2.length) (cpf ends ends2 i) stk (nI C2.length) h ++ txtW E b k2 code2 ends2 stk2 (nI C2.length) h_2) := by
    intro t
    induction t with
    | zero =>
      intro i hi
      have e3 := t_nI (n := i) (by omega)
      refine g_iload2 dX5_become_38 (g_iconst ki_3 dX5_become_39 (g_icmp_ge (tgt := 61) dX5_become_40 (by decide) (fun h40 => g_vret rfl dX5_become_61 (Nat.le_of_ble_eq_true rfl) (Nat.le_of_ble_eq_true rfl) ?q61) (fun h40 => ?s43)))
      case s43 => omega
      case q61 =>
        refine hQ _ ⟨_, Txt.mk rfl rfl hn2 ?_ ?_, rfl⟩
        · intro m x hm
          have := (List.getElem?_eq_some_iff.mp hm).1
          rw [cpf, if_pos this]; exact h12 m x hm
        · intro m hm
          rw [cpf, if_pos (by omega)]; exact h22 m hm
    | succ t ih =>
      intro i hi
      have e3 := t_nI (n := i) (by omega)
      refine g_iload2 dX5_become_38 (g_iconst ki_3 dX5_become_39 (g_icmp_ge (tgt := 61) dX5_become_40 (by decide) (fun h40 => g_vret rfl dX5_become_61 (Nat.le_of_ble_eq_true rfl) (Nat.le_of_ble_eq_true rfl) ?q61_2) (fun h40 => g_aload0 dX5_become_43 (g_get fl_X5_15 0 rfl rfl dX5_become_44 (g_iload2 dX5_become_47 (g_aload1 dX5_become_48 (g_get fl_X5_15 4 rfl rfl dX5_become_49 (g_iload2 dX5_become_52 (g_iaload 6 rfl dX5_become_53 ?b53_2 (g_iastore 2 rfl dX5_become_54 ?b54_2 (g_iinc2 ki_1 dX5_become_55 rfl rfl (g_goto (tgt := 38) dX5_become_58 (by decide) (?s38_2)))))))))))))
      case q61_2 => omega
      case s38_2 =>
        rw [e3, Int.toNat_natCast]
        dsimp only [List.set, List.cons_append]
        rw [cpf_s, nI_1]
        exact ih (i + 1) (by omega)
      all_goals omega
  have loop : ∀ t i, i + t = C2.length → G E mX5_become (d + 1) 0 0 A Q 0 0 10 [some (.ref (a k)), some (.ref (b k2)), some (.int (nI i))] [] (txtW E a k (cpf code code2 i) ends stk (nI C2.length) h ++ txtW E b k2 code2 ends2 stk2 (nI C2.length) h_2) := by
    intro t
    induction t with
    | zero =>
      intro i hi
      have e3 := t_nI (n := i) (by omega)
      have h3 : i = C2.length := by omega
      refine g_iload2 dX5_become_10 (g_aload0 dX5_become_11 (g_get fl_X5_18 0 rfl rfl dX5_become_12 (g_icmp_ge (tgt := 36) dX5_become_15 (by decide) (fun h15 => g_iconst ki_0 dX5_become_36 (g_istore2 dX5_become_37 rfl rfl (?s38_3))) (fun h15 => ?s18_3))))
      case s18_3 => omega
      case s38_3 =>
        have := loop2 3 0 rfl
        rw [cpf_0] at this
        rw [h3]
        exact this
    | succ t ih =>
      intro i hi
      have e3 := t_nI (n := i) (by omega)
      refine g_iload2 dX5_become_10 (g_aload0 dX5_become_11 (g_get fl_X5_18 0 rfl rfl dX5_become_12 (g_icmp_ge (tgt := 36) dX5_become_15 (by decide) (fun h15 => ?s36_4) (fun h15 => g_aload0 dX5_become_18 (g_get fl_X5_9 0 rfl rfl dX5_become_19 (g_iload2 dX5_become_22 (g_aload1 dX5_become_23 (g_get fl_X5_9 4 rfl rfl dX5_become_24 (g_iload2 dX5_become_27 (g_iaload 5 rfl dX5_become_28 ?b28_4 (g_iastore 1 rfl dX5_become_29 ?b29_4 (g_iinc2 ki_1 dX5_become_30 rfl rfl (g_goto (tgt := 10) dX5_become_33 (by decide) (?s10_4))))))))))))))
      case s36_4 => omega
      case s10_4 =>
        rw [e3, Int.toNat_natCast]
        dsimp only [List.set, List.cons_append]
        rw [cpf_s, nI_1]
        exact ih (i + 1) (by omega)
      all_goals omega
  refine g_aload0 dX5_become_0 (g_aload1 dX5_become_1 (g_get fl_X5_18 4 rfl rfl dX5_become_2 (g_put fl_X5_18 fp_5_2 0 rfl rfl rfl (Nat.le_of_ble_eq_true rfl) dX5_become_5 (g_iconst ki_0 dX5_become_8 (g_istore2 dX5_become_9 rfl rfl (?s10_5))))))
  have := loop C2.length 0 (by omega)
  rw [cpf_0] at this
  exact this
set_option maxRecDepth 20000 in
set_option maxHeartbeats 1000000 in
theorem c_valueOf (hN : g_N E) (hw : Txt E a k C e w) {p : Nat} (hp : p < 3) (hm : (if p = 0 then 0 else e (p - 1)) ≤ e p) (hc : e p ≤ C.length) (b : Nat) (nm : Nat → Int32) : g_Ci E mX5_valueOf (d + 4) [.ref (a k), .int (nI p), .ref b] (w ++ [(b, ia E 6 nm)]) (fun r w' => r = rpnV C nm (if p = 0 then 0 else e (p - 1)) (e p) ∧ ∃ w1, Txt E a k C e w1 ∧ w' = w1 ++ [(b, ia E 6 nm)]) := by
  obtain ⟨hn, code, ends, stk, h, rfl, h1, h2⟩ := hw
  refine g_enterI hN.1 (by decide) [some (.ref (a k)), some (.int (nI p)), some (.ref b), none] rfl (Nat.le_of_ble_eq_true rfl) (fun A Q hQ => ?_)
  have tc0 := tc_0; have tc1 := tc_1; have tc2 := tc_2; have tc6 := tc_6
  have e1 := t_nI (n := p) (by omega)
  have e6 : (nI 6).toInt = 6 := by decide
  have hb := g_biz (p := ((0 : Int32).toInt ≤ (nI p).toInt ∧ (nI p).toInt ≤ (2 : Int32).toInt))
  have hend := t_nI (n := e p) (by omega)
  have hep := (h2 p hp).1
  have loop : ∀ t i s stk, i + t = e p → s.length ≤ i → stkIs s stk → rpnV C nm (if p = 0 then 0 else e (p - 1)) (e p) = popv (rpnR C nm i t s) → G E mX5_valueOf (d + 4) 0 0 A Q 0 0 40 [some (.ref (a k)), some (.int (nI p)), some (.ref b), some (.int (nI i))] [] (txtW E a k code ends stk (nI C.length) (nI s.length) ++ [(b, ia E 6 nm)]) := by
    intro t
    induction t with
    | zero =>
      intro i s stk hi hs hst hr
      have e3 := t_nI (n := i) (by omega)
      refine g_iload3 dX5_valueOf_40 (g_aload0 dX5_valueOf_41 (g_get fl_X5_15 0 rfl rfl dX5_valueOf_42 (g_iload1 dX5_valueOf_45 (g_iaload 2 rfl dX5_valueOf_46 ?b46 (g_icmp_ge (tgt := 67) dX5_valueOf_47 (by decide) (fun h47 => g_aload0 dX5_valueOf_67 (?c68)) (fun h47 => ?s50))))))
      case s50 => rw [e1, Int.toNat_natCast, hep] at h47; omega
      case b46 => omega
      case c68 =>
        refine g_V0i dX5_valueOf_68 mv_X5_42 0 rfl rfl rfl (Nat.le_of_ble_eq_true rfl) (Nat.le_of_ble_eq_true rfl) ((c_pop hN hst (by omega)).frame (X := []) (Y := [(b, ia E 6 nm)])) (fun r1 w1 hq => ?_)
        obtain ⟨w2, ⟨rfl, rfl, h3⟩, rfl⟩ := hq
        refine g_iret rfl dX5_valueOf_71 (Nat.le_of_ble_eq_true rfl) (Nat.le_of_ble_eq_true rfl) ?q71_2
        exact hQ _ _ ⟨hr.symm, _, Txt.mk rfl rfl hn h1 h2, rfl⟩
    | succ t ih =>
      intro i s stk hi hs hst hr
      have e3 := t_nI (n := i) (by omega)
      obtain ⟨x, hx⟩ : ∃ x, C[i]? = some x := ⟨C[i], List.getElem?_eq_getElem (by omega)⟩
      have hx2 := h1 i x hx
      have hx3 : C.getD i 0 = x := by rw [List.getD_eq_getElem?_getD, hx]; rfl
      refine g_iload3 dX5_valueOf_40 (g_aload0 dX5_valueOf_41 (g_get fl_X5_15 0 rfl rfl dX5_valueOf_42 (g_iload1 dX5_valueOf_45 (g_iaload 2 rfl dX5_valueOf_46 ?b46_3 (g_icmp_ge (tgt := 67) dX5_valueOf_47 (by decide) (fun h47 => ?s67_3) (fun h47 => g_aload0 dX5_valueOf_50 (g_aload0 dX5_valueOf_51 (g_get fl_X5_9 0 rfl rfl dX5_valueOf_52 (g_iload3 dX5_valueOf_55 (g_iaload 1 rfl dX5_valueOf_56 ?b56_3 (g_aload2 dX5_valueOf_57 (?c58_3))))))))))))
      case s67_3 => rw [e1, Int.toNat_natCast, hep] at h47; omega
      case b46_3 => omega
      case b56_3 => omega
      case c58_3 =>
        rw [e3, Int.toNat_natCast, hx2]
        refine g_V2v dX5_valueOf_58 mv_X5_38 0 rfl rfl rfl (Nat.le_of_ble_eq_true rfl) (Nat.le_of_ble_eq_true rfl) (c_work hN hst (by omega) x b nm) (fun w1 hq => ?_)
        obtain ⟨stk', rfl, h3⟩ := hq
        refine g_iinc3 ki_1 dX5_valueOf_61 rfl rfl (g_goto (tgt := 40) dX5_valueOf_64 (by decide) (?s40_4))
        rw [nI_1]
        refine ih (i + 1) _ _ (by omega) ?_ h3 ?_
        · have := work1_len nm s x; omega
        · rw [hr, rpnR, hx3]
  refine g_iload1 dX5_valueOf_0 (g_iconst ki_0 dX5_valueOf_1 (g_iconst ki_2 dX5_valueOf_2 (r_X7_isWithinN hN (mn_X5_32 hN) dX5_valueOf_3 (Nat.le_of_ble_eq_true rfl) (Nat.le_of_ble_eq_true rfl) rfl (g_if_eq (tgt := 16) dX5_valueOf_6 (by decide) (fun h6 => g_iconst ki_0 dX5_valueOf_16 (g_iret rfl dX5_valueOf_17 (Nat.le_of_ble_eq_true rfl) (Nat.le_of_ble_eq_true rfl) ?q17_5)) (fun h6 => g_aload2 dX5_valueOf_9 (g_alen (c := 0) rfl 4 rfl dX5_valueOf_10 (g_bipush kb_6 dX5_valueOf_11 (g_icmp_ge (tgt := 18) dX5_valueOf_13 (by decide) (fun h13 => g_aload0 dX5_valueOf_18 (g_iconst ki_0 dX5_valueOf_19 (g_put fl_X5_25 fp_5_4 0 rfl rfl rfl (Nat.le_of_ble_eq_true rfl) dX5_valueOf_20 (g_iload1 dX5_valueOf_23 (g_if_ne (tgt := 31) dX5_valueOf_24 (by decide) (fun h24 => g_aload0 dX5_valueOf_31 (g_get fl_X5_15 0 rfl rfl dX5_valueOf_32 (g_iload1 dX5_valueOf_35 (g_iconst ki_1 dX5_valueOf_36 (g_isub dX5_valueOf_37 (g_iaload 2 rfl dX5_valueOf_38 ?b38_5 (?s39_5))))))) (fun h24 => g_iconst ki_0 dX5_valueOf_27 (g_goto (tgt := 39) dX5_valueOf_28 (by decide) (?s39_5')))))))) (fun h13 => g_iconst ki_0 dX5_valueOf_16 (g_iret rfl dX5_valueOf_17 (Nat.le_of_ble_eq_true rfl) (Nat.le_of_ble_eq_true rfl) ?q17_5'))))))))))
  case q17_5 => omega
  case q17_5' => dsimp only at h13; omega
  case b38_5 => rw [t_sub (by omega) (by omega)]; omega
  case s39_5 =>
    have hp0 : ¬ p = 0 := by omega
    have e7 : (nI p - 1).toInt = ((p - 1 : Nat) : Int) := by rw [t_sub (by omega) (by omega)]; omega
    rw [e7, Int.toNat_natCast, (h2 (p - 1) (by omega)).1]
    rw [if_neg hp0] at hm
    refine g_istore3 dX5_valueOf_39 rfl rfl (?s40_6)
    exact loop (e p - e (p - 1)) (e (p - 1)) [] stk (by omega) (Nat.zero_le _) trivial (by rw [if_neg hp0]; rfl)
  case s39_5' =>
    have hp0 : p = 0 := by omega
    refine g_istore3 dX5_valueOf_39 rfl rfl (?s40_7)
    have := loop (e p) 0 [] stk (by omega) (Nat.le_refl _) trivial (by rw [if_pos hp0]; rfl)
    exact this
end S22
