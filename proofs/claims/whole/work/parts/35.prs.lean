/-! texts as they are read -/
abbrev PR : Type := Bool × PS × List Int32
def loopB (T : List Nat) (isOp : Nat → Bool) (sub : PS → PR) : Nat → PR → PR
  | 0, r => r
  | t + 1, r => if r.1 = true ∧ isOp r.2.1.1 = true then loopB T isOp sub t ((sub (lexP T r.2.1.2.2.1)).1, (sub (lexP T r.2.1.2.2.1)).2.1, r.2.2 ++ ((sub (lexP T r.2.1.2.2.1)).2.2 ++ [nI r.2.1.1])) else r
/-- levels: 0 or, 1 and, 2 not, 3 comparison, 4 sum, 5 term, 6 one -/
def prs (T : List Nat) : Nat → Nat → Nat → PS → PR
  | 0, _, _, P => (false, P, [])
  | f + 1, L, o, P =>
    if L = 0 then loopB T (fun t => t == 9) (prs T f 1 o) 160 (prs T f 1 o P)
    else if L = 1 then loopB T (fun t => t == 10) (prs T f 2 o) 160 (prs T f 2 o P)
    else if L = 2 then
      if P.1 = 11 then
        if 5 ≤ o then (false, P, []) else ((prs T f 2 (o + 1) (lexP T P.2.2.1)).1, (prs T f 2 (o + 1) (lexP T P.2.2.1)).2.1, (prs T f 2 (o + 1) (lexP T P.2.2.1)).2.2 ++ [11])
      else prs T f 3 o P
    else if L = 3 then
      if (prs T f 4 o P).1 = true ∧ ((prs T f 4 o P).2.1.1 = 18 ∨ (prs T f 4 o P).2.1.1 = 19) then
        ((prs T f 4 o (lexP T (prs T f 4 o P).2.1.2.2.1)).1, (prs T f 4 o (lexP T (prs T f 4 o P).2.1.2.2.1)).2.1, (prs T f 4 o P).2.2 ++ ((prs T f 4 o (lexP T (prs T f 4 o P).2.1.2.2.1)).2.2 ++ [nI (prs T f 4 o P).2.1.1]))
      else prs T f 4 o P
    else if L = 4 then loopB T (fun t => t == 15 || t == 16) (prs T f 5 o) 160 (prs T f 5 o P)
    else if L = 5 then loopB T (fun t => t == 17) (prs T f 6 o) 160 (prs T f 6 o P)
    else if P.1 = 21 then (true, lexP T P.2.2.1, [32 + nI P.2.2.2])
    else if P.1 ≤ 5 then (true, lexP T P.2.2.1, [nI P.1])
    else if 5 ≤ o then (false, P, [])
    else if P.1 = 16 then ((prs T f 6 (o + 1) (lexP T P.2.2.1)).1, (prs T f 6 (o + 1) (lexP T P.2.2.1)).2.1, (prs T f 6 (o + 1) (lexP T P.2.2.1)).2.2 ++ [20])
    else if P.1 = 12 then
      if (prs T f 0 (o + 1) (lexP T P.2.2.1)).1 = true ∧ (prs T f 0 (o + 1) (lexP T P.2.2.1)).2.1.1 = 13 then (true, lexP T (prs T f 0 (o + 1) (lexP T P.2.2.1)).2.1.2.2.1, (prs T f 0 (o + 1) (lexP T P.2.2.1)).2.2)
      else (false, (prs T f 0 (o + 1) (lexP T P.2.2.1)).2.1, (prs T f 0 (o + 1) (lexP T P.2.2.1)).2.2)
    else (false, P, [])
def addAll (C seg : List Int32) : List Int32 := seg.foldl addT C
theorem addAll_app (C x y : List Int32) : addAll C (x ++ y) = addAll (addAll C x) y := List.foldl_append
theorem addAll_1 (C : List Int32) (x : Int32) : addAll C [x] = addT C x := rfl
theorem addAll_0 (C : List Int32) : addAll C [] = C := rfl
def RT (E : GE) (a : Nat → Nat) (k : Nat) (T : List Nat) (P : PS) (C : List Int32) (e : Nat → Nat) (w : va_W) : Prop := ∃ w1 w2, Rdr E a k T P w1 ∧ Txt E a (k + 2) C e w2 ∧ w = w1 ++ w2
def mR (L : Nat) : GM := match L with
  | 0 => mX2_readExpression
  | 1 => mX2_readConjunction
  | 2 => mX2_readNegation
  | 3 => mX2_readComparison
  | 4 => mX2_readSum
  | 5 => mX2_readTerm
  | _ => mX2_readOne
def needN (L o : Nat) : Nat := 7 * (5 - o) + (7 - L)
/-- what is shown of a level -/
def RC (E : GE) (a : Nat → Nat) (k : Nat) (T : List Nat) (e : Nat → Nat) (d f L : Nat) : Prop := ∀ (o : Nat) (P : PS) (C : List Int32) (w : va_W), o ≤ 5 → needN L o ≤ f → RT E a k T P C e w → g_Ci E (mR L) (d + f + 10) [.ref (a k), .int (nI o)] w (fun r w' => r = g_bi ((prs T f L o P).1 = true) ∧ RT E a k T (prs T f L o P).2.1 (addAll C (prs T f L o P).2.2) e w')
section S35
variable {E : GE} {d : Nat} {a : Nat → Nat} {k : Nat} {adK adV ta : Nat → Nat} {T : List Nat} {e : Nat → Nat}
theorem RT.step (hE : g_E E adK adV ta) {P : PS} {C : List Int32} {w : va_W} (h : RT E a k T P C e w) : g_Cv E mX2_step (d + 7) [.ref (a k)] w (fun w' => RT E a k T (lexP T P.2.2.1) C e w') := by
  obtain ⟨w1, w2, h1, h2, rfl⟩ := h
  exact ((c_step hE h1).frame (X := []) (Y := w2)).post (fun w' hw => by obtain ⟨w3, h3, rfl⟩ := hw; exact ⟨w3, w2, h3, h2, rfl⟩)
theorem RT.add (hN : g_N E) {P : PS} {C : List Int32} {w : va_W} (h : RT E a k T P C e w) (t : Int32) : g_Cv E mX5_addToken (d + 1) [.ref (a (k + 2)), .int t] w (fun w' => RT E a k T P (addT C t) e w') := by
  obtain ⟨w1, w2, h1, h2, rfl⟩ := h
  have := ((c_addToken (d := d) hN h2 t).frame (X := w1) (Y := []))
  rw [List.append_nil] at this
  exact this.post (fun w' hw => by obtain ⟨w3, h3, rfl⟩ := hw; rw [List.append_nil]; exact ⟨w1, w3, h1, h3, rfl⟩)
theorem RT.addN (hN : g_N E) {P : PS} {C : List Int32} {w : va_W} (h : RT E a k T P C e w) (t : Int32) : g_Cv E mX5_addNumber (d + 2) [.ref (a (k + 2)), .int t] w (fun w' => RT E a k T P (addT C (32 + t)) e w') := by
  obtain ⟨w1, w2, h1, h2, rfl⟩ := h
  have := ((c_addNumber (d := d) hN h2 t).frame (X := w1) (Y := []))
  rw [List.append_nil] at this
  exact this.post (fun w' hw => by obtain ⟨w3, h3, rfl⟩ := hw; rw [List.append_nil]; exact ⟨w1, w3, h1, h3, rfl⟩)
theorem RT.lit {P : PS} {C : List Int32} {w : va_W} (h : RT E a k T P C e w) : ∃ tp nu code ends stk hh, w = rdrW E a k tp (nI T.length) (nI P.2.2.1) (nI P.1) (nI P.2.1) nu ++ txtW E a (k + 2) code ends stk (nI C.length) hh ∧ P.1 < 24 ∧ (P.1 = 21 → nu = nI P.2.2.2 ∧ P.2.2.2 < 10000) := by
  obtain ⟨w1, w2, ⟨tp, nu, rfl, -, h3, -, -, h4⟩, ⟨-, code, ends, stk, hh, rfl, -⟩, rfl⟩ := h
  exact ⟨tp, nu, code, ends, stk, hh, rfl, h3, h4⟩
set_option maxRecDepth 20000 in
theorem c_pass (hE : g_E E adK adV ta) {P : PS} {C : List Int32} {w : va_W} (h : RT E a k T P C e w) {q : Nat} (hq24 : q < 24) : g_Ci E mX2_pass (d + 8) [.ref (a k), .int (nI q)] w (fun r w' => r = g_bi (P.1 = q) ∧ RT E a k T (if P.1 = q then lexP T P.2.2.1 else P) C e w') := by
  have hN := g_E_N hE
  have h' := h
  obtain ⟨tp, nu, code, ends, stk, hh, rfl, h3, h4⟩ := h.lit
  have e1 := t_nI (n := P.1) (by omega)
  have e2 := t_nI (n := q) (by omega)
  refine g_enterI hN.1 (by decide) [some (.ref (a k)), some (.int (nI q))] rfl (Nat.le_of_ble_eq_true rfl) (fun A Q hQ => ?_)
  have tc0 := tc_0; have tc1 := tc_1
  refine g_aload0 dX2_pass_0 (g_get fl_X2_31 0 rfl rfl dX2_pass_1 (g_iload1 dX2_pass_4 (g_icmp_eq (tgt := 10) dX2_pass_5 (by decide) (fun h5 => g_aload0 dX2_pass_10 (?c11)) (fun h5 => g_iconst ki_0 dX2_pass_8 (g_zret rfl (by first | exact g_bi01 _ | exact Or.inl rfl | exact Or.inr rfl) dX2_pass_9 (Nat.le_of_ble_eq_true rfl) (Nat.le_of_ble_eq_true rfl) ?q9)))))
  case q9 =>
    have hne : ¬ P.1 = q := by omega
    rw [if_neg hne] at hQ
    exact hQ _ _ ⟨(g_bi0 hne).symm, h'⟩
  case c11 =>
    have heq : P.1 = q := by omega
    rw [if_pos heq] at hQ
    refine g_V0v dX2_pass_11 mv_X2_43 0 rfl rfl rfl (Nat.le_of_ble_eq_true rfl) (Nat.le_of_ble_eq_true rfl) (h'.step hE) (fun w1 hq => ?_)
    refine g_iconst ki_1 dX2_pass_14 (g_zret rfl (by first | exact g_bi01 _ | exact Or.inl rfl | exact Or.inr rfl) dX2_pass_15 (Nat.le_of_ble_eq_true rfl) (Nat.le_of_ble_eq_true rfl) ?q15_2)
    exact hQ _ _ ⟨(g_bi1 heq).symm, hq⟩
set_option maxRecDepth 20000 in
set_option maxHeartbeats 1000000 in
theorem c_readExpression (hE : g_E E adK adV ta) {f : Nat} (ih : RC E a k T e d f 1) : RC E a k T e d (f + 1) 0 := by
  intro o P C w ho hne hw
  have hN := g_E_N hE
  have hw' := hw
  obtain ⟨tp, nu, code, ends, stk, hh, rfl, h3, h4⟩ := hw.lit
  have hp : prs T (f + 1) 0 o P = loopB T (fun t => t == 9) (prs T f 1 o) 160 (prs T f 1 o P) := rfl
  rw [hp]
  generalize hF : loopB T (fun t => t == 9) (prs T f 1 o) 160 (prs T f 1 o P) = F
  have hne2 : needN 1 o ≤ f := by unfold needN at *; omega
  show g_Ci E mX2_readExpression _ _ _ _
  refine g_enterI hN.1 (by decide) [some (.ref (a k)), some (.int (nI o)), none, none] rfl (Nat.le_of_ble_eq_true rfl) (fun A Q hQ => ?_)
  have tc0 := tc_0; have tc1 := tc_1; have tc9 := tc_9; have tc160 := tc_160
  have loop : ∀ (t i : Nat) (r : PR) (w : va_W), i + t = 160 → RT E a k T r.2.1 (addAll C r.2.2) e w → F = loopB T (fun t => t == 9) (prs T f 1 o) t r → G E mX2_readExpression (d + (f + 1) + 10) 0 0 A Q 0 0 8 [some (.ref (a k)), some (.int (nI o)), some (.int (g_bi (r.1 = true))), some (.int (nI i))] [] w := by
    intro t
    induction t with
    | zero =>
      intro i r w hi hw hr
      have ei := t_nI (n := i) (by omega)
      refine g_iload3 dX2_readExpression_8 (g_sipush ks_160 dX2_readExpression_9 (g_icmp_ge (tgt := 53) dX2_readExpression_12 (by decide) (fun h12 => g_iload2 dX2_readExpression_53 (g_zret rfl (by first | exact g_bi01 _ | exact Or.inl rfl | exact Or.inr rfl) dX2_readExpression_54 (Nat.le_of_ble_eq_true rfl) (Nat.le_of_ble_eq_true rfl) ?q54)) (fun h12 => ?s15)))
      case s15 => omega
      case q54 => exact hQ _ _ ⟨by rw [hr]; rfl, by rw [hr]; exact hw⟩
    | succ t ih2 =>
      intro i r w hi hw hr
      have hw' := hw
      obtain ⟨tp, nu, code, ends, stk, hh, rfl, h3, h4⟩ := hw.lit
      have ei := t_nI (n := i) (by omega)
      have et := t_nI (n := r.2.1.1) (by omega)
      have hz := g_biz (p := (r.1 = true))
      rw [loopB] at hr
      refine g_iload3 dX2_readExpression_8 (g_sipush ks_160 dX2_readExpression_9 (g_icmp_ge (tgt := 53) dX2_readExpression_12 (by decide) (fun h12 => g_iload2 dX2_readExpression_53 (g_zret rfl (by first | exact g_bi01 _ | exact Or.inl rfl | exact Or.inr rfl) dX2_readExpression_54 (Nat.le_of_ble_eq_true rfl) (Nat.le_of_ble_eq_true rfl) ?q54_2)) (fun h12 => g_iload2 dX2_readExpression_15 (g_if_eq (tgt := 53) dX2_readExpression_16 (by decide) (fun h16 => g_iload2 dX2_readExpression_53 (g_zret rfl (by first | exact g_bi01 _ | exact Or.inl rfl | exact Or.inr rfl) dX2_readExpression_54 (Nat.le_of_ble_eq_true rfl) (Nat.le_of_ble_eq_true rfl) ?q54_2')) (fun h16 => g_aload0 dX2_readExpression_19 (g_get fl_X2_31 0 rfl rfl dX2_readExpression_20 (g_bipush kb_9 dX2_readExpression_23 (g_icmp_ne (tgt := 53) dX2_readExpression_25 (by decide) (fun h25 => g_iload2 dX2_readExpression_53 (g_zret rfl (by first | exact g_bi01 _ | exact Or.inl rfl | exact Or.inr rfl) dX2_readExpression_54 (Nat.le_of_ble_eq_true rfl) (Nat.le_of_ble_eq_true rfl) ?q54_2'')) (fun h25 => g_aload0 dX2_readExpression_28 (?c29_2))))))))))
      case q54_2 => omega
      case q54_2' =>
        rw [if_neg (fun q => hz.mp h16 q.1)] at hr
        exact hQ _ _ ⟨by rw [hr], by rw [hr]; exact hw'⟩
      case q54_2'' =>
        rw [if_neg (fun q => h25 (by have := beq_iff_eq.mp q.2; omega))] at hr
        exact hQ _ _ ⟨by rw [hr], by rw [hr]; exact hw'⟩
      case c29_2 =>
        have hop : r.2.1.1 = 9 := by omega
        have hr1 : r.1 = true := by
          by_cases q : r.1 = true
          · exact q
          · exact absurd (hz.mpr q) h16
        rw [if_pos ⟨hr1, by rw [hop]; rfl⟩] at hr
        refine g_V0v dX2_readExpression_29 mv_X2_43 0 rfl rfl rfl (Nat.le_of_ble_eq_true rfl) (Nat.le_of_ble_eq_true rfl) (hw'.step hE) (fun w1 hq => ?_)
        obtain ⟨tp, nu, code, ends, stk, hh, rfl, h3, h4⟩ := hq.lit
        refine g_aload0 dX2_readExpression_32 (g_iload1 dX2_readExpression_33 (?c34_3))
        refine g_V1i dX2_readExpression_34 mv_X2_61 0 rfl rfl rfl (Nat.le_of_ble_eq_true rfl) (Nat.le_of_ble_eq_true rfl) (ih o _ _ _ ho hne2 hq) (fun r1 w1 hq => ?_)
        obtain ⟨rfl, hq2⟩ := hq
        obtain ⟨tp, nu, code, ends, stk, hh, rfl, h3, h4⟩ := hq2.lit
        refine g_istore2 dX2_readExpression_37 rfl rfl (g_aload0 dX2_readExpression_38 (g_get fl_X2_18 0 rfl rfl dX2_readExpression_39 (g_bipush kb_9 dX2_readExpression_42 (?c44_4))))
        refine g_V1v dX2_readExpression_44 mv_X2_64 2 rfl rfl rfl (Nat.le_of_ble_eq_true rfl) (Nat.le_of_ble_eq_true rfl) (hq2.add hN 9) (fun w1 hq => ?_)
        refine g_iinc3 ki_1 dX2_readExpression_47 rfl rfl (g_goto (tgt := 8) dX2_readExpression_50 (by decide) (?s8_5))
        rw [nI_1]
        refine ih2 (i + 1) ((prs T f 1 o (lexP T r.2.1.2.2.1)).1, (prs T f 1 o (lexP T r.2.1.2.2.1)).2.1, r.2.2 ++ ((prs T f 1 o (lexP T r.2.1.2.2.1)).2.2 ++ [nI r.2.1.1])) _ (by omega) ?_ hr
        dsimp only
        rw [addAll_app, addAll_app, addAll_1, hop]
        exact hq
  refine g_aload0 dX2_readExpression_0 (g_iload1 dX2_readExpression_1 (?c2_6))
  refine g_V1i dX2_readExpression_2 mv_X2_61 0 rfl rfl rfl (Nat.le_of_ble_eq_true rfl) (Nat.le_of_ble_eq_true rfl) (ih o _ _ _ ho hne2 hw') (fun r1 w1 hq => ?_)
  obtain ⟨rfl, hq2⟩ := hq
  refine g_istore2 dX2_readExpression_5 rfl rfl (g_iconst ki_0 dX2_readExpression_6 (g_istore3 dX2_readExpression_7 rfl rfl (?s8_7)))
  exact loop 160 0 _ _ rfl hq2 hF.symm
set_option maxRecDepth 20000 in
set_option maxHeartbeats 1000000 in
theorem c_readConjunction (hE : g_E E adK adV ta) {f : Nat} (ih : RC E a k T e d f 2) : RC E a k T e d (f + 1) 1 := by
  intro o P C w ho hne hw
  have hN := g_E_N hE
  have hw' := hw
  obtain ⟨tp, nu, code, ends, stk, hh, rfl, h3, h4⟩ := hw.lit
  have hp : prs T (f + 1) 1 o P = loopB T (fun t => t == 10) (prs T f 2 o) 160 (prs T f 2 o P) := rfl
  rw [hp]
  generalize hF : loopB T (fun t => t == 10) (prs T f 2 o) 160 (prs T f 2 o P) = F
  have hne2 : needN 2 o ≤ f := by unfold needN at *; omega
  show g_Ci E mX2_readConjunction _ _ _ _
  refine g_enterI hN.1 (by decide) [some (.ref (a k)), some (.int (nI o)), none, none] rfl (Nat.le_of_ble_eq_true rfl) (fun A Q hQ => ?_)
  have tc0 := tc_0; have tc1 := tc_1; have tc10 := tc_10; have tc160 := tc_160
  have loop : ∀ (t i : Nat) (r : PR) (w : va_W), i + t = 160 → RT E a k T r.2.1 (addAll C r.2.2) e w → F = loopB T (fun t => t == 10) (prs T f 2 o) t r → G E mX2_readConjunction (d + (f + 1) + 10) 0 0 A Q 0 0 8 [some (.ref (a k)), some (.int (nI o)), some (.int (g_bi (r.1 = true))), some (.int (nI i))] [] w := by
    intro t
    induction t with
    | zero =>
      intro i r w hi hw hr
      have ei := t_nI (n := i) (by omega)
      refine g_iload3 dX2_readConjunction_8 (g_sipush ks_160 dX2_readConjunction_9 (g_icmp_ge (tgt := 53) dX2_readConjunction_12 (by decide) (fun h12 => g_iload2 dX2_readConjunction_53 (g_zret rfl (by first | exact g_bi01 _ | exact Or.inl rfl | exact Or.inr rfl) dX2_readConjunction_54 (Nat.le_of_ble_eq_true rfl) (Nat.le_of_ble_eq_true rfl) ?q54)) (fun h12 => ?s15)))
      case s15 => omega
      case q54 => exact hQ _ _ ⟨by rw [hr]; rfl, by rw [hr]; exact hw⟩
    | succ t ih2 =>
      intro i r w hi hw hr
      have hw' := hw
      obtain ⟨tp, nu, code, ends, stk, hh, rfl, h3, h4⟩ := hw.lit
      have ei := t_nI (n := i) (by omega)
      have et := t_nI (n := r.2.1.1) (by omega)
      have hz := g_biz (p := (r.1 = true))
      rw [loopB] at hr
      refine g_iload3 dX2_readConjunction_8 (g_sipush ks_160 dX2_readConjunction_9 (g_icmp_ge (tgt := 53) dX2_readConjunction_12 (by decide) (fun h12 => g_iload2 dX2_readConjunction_53 (g_zret rfl (by first | exact g_bi01 _ | exact Or.inl rfl | exact Or.inr rfl) dX2_readConjunction_54 (Nat.le_of_ble_eq_true rfl) (Nat.le_of_ble_eq_true rfl) ?q54_2)) (fun h12 => g_iload2 dX2_readConjunction_15 (g_if_eq (tgt := 53) dX2_readConjunction_16 (by decide) (fun h16 => g_iload2 dX2_readConjunction_53 (g_zret rfl (by first | exact g_bi01 _ | exact Or.inl rfl | exact Or.inr rfl) dX2_readConjunction_54 (Nat.le_of_ble_eq_true rfl) (Nat.le_of_ble_eq_true rfl) ?q54_2')) (fun h16 => g_aload0 dX2_readConjunction_19 (g_get fl_X2_31 0 rfl rfl dX2_readConjunction_20 (g_bipush kb_10 dX2_readConjunction_23 (g_icmp_ne (tgt := 53) dX2_readConjunction_25 (by decide) (fun h25 => g_iload2 dX2_readConjunction_53 (g_zret rfl (by first | exact g_bi01 _ | exact Or.inl rfl | exact Or.inr rfl) dX2_readConjunction_54 (Nat.le_of_ble_eq_true rfl) (Nat.le_of_ble_eq_true rfl) ?q54_2'')) (fun h25 => g_aload0 dX2_readConjunction_28 (?c29_2))))))))))
      case q54_2 => omega
      case q54_2' =>
        rw [if_neg (fun q => hz.mp h16 q.1)] at hr
        exact hQ _ _ ⟨by rw [hr], by rw [hr]; exact hw'⟩
      case q54_2'' =>
        rw [if_neg (fun q => h25 (by have := beq_iff_eq.mp q.2; omega))] at hr
        exact hQ _ _ ⟨by rw [hr], by rw [hr]; exact hw'⟩
      case c29_2 =>
        have hop : r.2.1.1 = 10 := by omega
        have hr1 : r.1 = true := by
          by_cases q : r.1 = true
          · exact q
          · exact absurd (hz.mpr q) h16
        rw [if_pos ⟨hr1, by rw [hop]; rfl⟩] at hr
        refine g_V0v dX2_readConjunction_29 mv_X2_43 0 rfl rfl rfl (Nat.le_of_ble_eq_true rfl) (Nat.le_of_ble_eq_true rfl) (hw'.step hE) (fun w1 hq => ?_)
        obtain ⟨tp, nu, code, ends, stk, hh, rfl, h3, h4⟩ := hq.lit
        refine g_aload0 dX2_readConjunction_32 (g_iload1 dX2_readConjunction_33 (?c34_3))
        refine g_V1i dX2_readConjunction_34 mv_X2_67 0 rfl rfl rfl (Nat.le_of_ble_eq_true rfl) (Nat.le_of_ble_eq_true rfl) (ih o _ _ _ ho hne2 hq) (fun r1 w1 hq => ?_)
        obtain ⟨rfl, hq2⟩ := hq
        obtain ⟨tp, nu, code, ends, stk, hh, rfl, h3, h4⟩ := hq2.lit
        refine g_istore2 dX2_readConjunction_37 rfl rfl (g_aload0 dX2_readConjunction_38 (g_get fl_X2_18 0 rfl rfl dX2_readConjunction_39 (g_bipush kb_10 dX2_readConjunction_42 (?c44_4))))
        refine g_V1v dX2_readConjunction_44 mv_X2_64 2 rfl rfl rfl (Nat.le_of_ble_eq_true rfl) (Nat.le_of_ble_eq_true rfl) (hq2.add hN 10) (fun w1 hq => ?_)
        refine g_iinc3 ki_1 dX2_readConjunction_47 rfl rfl (g_goto (tgt := 8) dX2_readConjunction_50 (by decide) (?s8_5))
        rw [nI_1]
        refine ih2 (i + 1) ((prs T f 2 o (lexP T r.2.1.2.2.1)).1, (prs T f 2 o (lexP T r.2.1.2.2.1)).2.1, r.2.2 ++ ((prs T f 2 o (lexP T r.2.1.2.2.1)).2.2 ++ [nI r.2.1.1])) _ (by omega) ?_ hr
        dsimp only
        rw [addAll_app, addAll_app, addAll_1, hop]
        exact hq
  refine g_aload0 dX2_readConjunction_0 (g_iload1 dX2_readConjunction_1 (?c2_6))
  refine g_V1i dX2_readConjunction_2 mv_X2_67 0 rfl rfl rfl (Nat.le_of_ble_eq_true rfl) (Nat.le_of_ble_eq_true rfl) (ih o _ _ _ ho hne2 hw') (fun r1 w1 hq => ?_)
  obtain ⟨rfl, hq2⟩ := hq
  refine g_istore2 dX2_readConjunction_5 rfl rfl (g_iconst ki_0 dX2_readConjunction_6 (g_istore3 dX2_readConjunction_7 rfl rfl (?s8_7)))
  exact loop 160 0 _ _ rfl hq2 hF.symm
set_option maxRecDepth 20000 in
set_option maxHeartbeats 1000000 in
theorem c_readTerm (hE : g_E E adK adV ta) {f : Nat} (ih : RC E a k T e d f 6) : RC E a k T e d (f + 1) 5 := by
  intro o P C w ho hne hw
  have hN := g_E_N hE
  have hw' := hw
  obtain ⟨tp, nu, code, ends, stk, hh, rfl, h3, h4⟩ := hw.lit
  have hp : prs T (f + 1) 5 o P = loopB T (fun t => t == 17) (prs T f 6 o) 160 (prs T f 6 o P) := rfl
  rw [hp]
  generalize hF : loopB T (fun t => t == 17) (prs T f 6 o) 160 (prs T f 6 o P) = F
  have hne2 : needN 6 o ≤ f := by unfold needN at *; omega
  show g_Ci E mX2_readTerm _ _ _ _
  refine g_enterI hN.1 (by decide) [some (.ref (a k)), some (.int (nI o)), none, none] rfl (Nat.le_of_ble_eq_true rfl) (fun A Q hQ => ?_)
  have tc0 := tc_0; have tc1 := tc_1; have tc17 := tc_17; have tc160 := tc_160
  have loop : ∀ (t i : Nat) (r : PR) (w : va_W), i + t = 160 → RT E a k T r.2.1 (addAll C r.2.2) e w → F = loopB T (fun t => t == 17) (prs T f 6 o) t r → G E mX2_readTerm (d + (f + 1) + 10) 0 0 A Q 0 0 8 [some (.ref (a k)), some (.int (nI o)), some (.int (g_bi (r.1 = true))), some (.int (nI i))] [] w := by
    intro t
    induction t with
    | zero =>
      intro i r w hi hw hr
      have ei := t_nI (n := i) (by omega)
      refine g_iload3 dX2_readTerm_8 (g_sipush ks_160 dX2_readTerm_9 (g_icmp_ge (tgt := 53) dX2_readTerm_12 (by decide) (fun h12 => g_iload2 dX2_readTerm_53 (g_zret rfl (by first | exact g_bi01 _ | exact Or.inl rfl | exact Or.inr rfl) dX2_readTerm_54 (Nat.le_of_ble_eq_true rfl) (Nat.le_of_ble_eq_true rfl) ?q54)) (fun h12 => ?s15)))
      case s15 => omega
      case q54 => exact hQ _ _ ⟨by rw [hr]; rfl, by rw [hr]; exact hw⟩
    | succ t ih2 =>
      intro i r w hi hw hr
      have hw' := hw
      obtain ⟨tp, nu, code, ends, stk, hh, rfl, h3, h4⟩ := hw.lit
      have ei := t_nI (n := i) (by omega)
      have et := t_nI (n := r.2.1.1) (by omega)
      have hz := g_biz (p := (r.1 = true))
      rw [loopB] at hr
      refine g_iload3 dX2_readTerm_8 (g_sipush ks_160 dX2_readTerm_9 (g_icmp_ge (tgt := 53) dX2_readTerm_12 (by decide) (fun h12 => g_iload2 dX2_readTerm_53 (g_zret rfl (by first | exact g_bi01 _ | exact Or.inl rfl | exact Or.inr rfl) dX2_readTerm_54 (Nat.le_of_ble_eq_true rfl) (Nat.le_of_ble_eq_true rfl) ?q54_2)) (fun h12 => g_iload2 dX2_readTerm_15 (g_if_eq (tgt := 53) dX2_readTerm_16 (by decide) (fun h16 => g_iload2 dX2_readTerm_53 (g_zret rfl (by first | exact g_bi01 _ | exact Or.inl rfl | exact Or.inr rfl) dX2_readTerm_54 (Nat.le_of_ble_eq_true rfl) (Nat.le_of_ble_eq_true rfl) ?q54_2')) (fun h16 => g_aload0 dX2_readTerm_19 (g_get fl_X2_31 0 rfl rfl dX2_readTerm_20 (g_bipush kb_17 dX2_readTerm_23 (g_icmp_ne (tgt := 53) dX2_readTerm_25 (by decide) (fun h25 => g_iload2 dX2_readTerm_53 (g_zret rfl (by first | exact g_bi01 _ | exact Or.inl rfl | exact Or.inr rfl) dX2_readTerm_54 (Nat.le_of_ble_eq_true rfl) (Nat.le_of_ble_eq_true rfl) ?q54_2'')) (fun h25 => g_aload0 dX2_readTerm_28 (?c29_2))))))))))
      case q54_2 => omega
      case q54_2' =>
        rw [if_neg (fun q => hz.mp h16 q.1)] at hr
        exact hQ _ _ ⟨by rw [hr], by rw [hr]; exact hw'⟩
      case q54_2'' =>
        rw [if_neg (fun q => h25 (by have := beq_iff_eq.mp q.2; omega))] at hr
        exact hQ _ _ ⟨by rw [hr], by rw [hr]; exact hw'⟩
      case c29_2 =>
        have hop : r.2.1.1 = 17 := by omega
        have hr1 : r.1 = true := by
          by_cases q : r.1 = true
          · exact q
          · exact absurd (hz.mpr q) h16
        rw [if_pos ⟨hr1, by rw [hop]; rfl⟩] at hr
        refine g_V0v dX2_readTerm_29 mv_X2_43 0 rfl rfl rfl (Nat.le_of_ble_eq_true rfl) (Nat.le_of_ble_eq_true rfl) (hw'.step hE) (fun w1 hq => ?_)
        obtain ⟨tp, nu, code, ends, stk, hh, rfl, h3, h4⟩ := hq.lit
        refine g_aload0 dX2_readTerm_32 (g_iload1 dX2_readTerm_33 (?c34_3))
        refine g_V1i dX2_readTerm_34 mv_X2_79 0 rfl rfl rfl (Nat.le_of_ble_eq_true rfl) (Nat.le_of_ble_eq_true rfl) (ih o _ _ _ ho hne2 hq) (fun r1 w1 hq => ?_)
        obtain ⟨rfl, hq2⟩ := hq
        obtain ⟨tp, nu, code, ends, stk, hh, rfl, h3, h4⟩ := hq2.lit
        refine g_istore2 dX2_readTerm_37 rfl rfl (g_aload0 dX2_readTerm_38 (g_get fl_X2_18 0 rfl rfl dX2_readTerm_39 (g_bipush kb_17 dX2_readTerm_42 (?c44_4))))
        refine g_V1v dX2_readTerm_44 mv_X2_64 2 rfl rfl rfl (Nat.le_of_ble_eq_true rfl) (Nat.le_of_ble_eq_true rfl) (hq2.add hN 17) (fun w1 hq => ?_)
        refine g_iinc3 ki_1 dX2_readTerm_47 rfl rfl (g_goto (tgt := 8) dX2_readTerm_50 (by decide) (?s8_5))
        rw [nI_1]
        refine ih2 (i + 1) ((prs T f 6 o (lexP T r.2.1.2.2.1)).1, (prs T f 6 o (lexP T r.2.1.2.2.1)).2.1, r.2.2 ++ ((prs T f 6 o (lexP T r.2.1.2.2.1)).2.2 ++ [nI r.2.1.1])) _ (by omega) ?_ hr
        dsimp only
        rw [addAll_app, addAll_app, addAll_1, hop]
        exact hq
  refine g_aload0 dX2_readTerm_0 (g_iload1 dX2_readTerm_1 (?c2_6))
  refine g_V1i dX2_readTerm_2 mv_X2_79 0 rfl rfl rfl (Nat.le_of_ble_eq_true rfl) (Nat.le_of_ble_eq_true rfl) (ih o _ _ _ ho hne2 hw') (fun r1 w1 hq => ?_)
  obtain ⟨rfl, hq2⟩ := hq
  refine g_istore2 dX2_readTerm_5 rfl rfl (g_iconst ki_0 dX2_readTerm_6 (g_istore3 dX2_readTerm_7 rfl rfl (?s8_7)))
  exact loop 160 0 _ _ rfl hq2 hF.symm
end S35
