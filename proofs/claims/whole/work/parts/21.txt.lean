/-! texts: steps of three expressions, what is worked on ahead of what works on it -/
theorem g_case {E : GE} {M : GM} {d mc ms : Nat} {A : Nat → Prop} {Q : Option Value → va_W → Prop} {k n pc : Nat} {ls : List (Option Value)} {st : List Value} {ws : va_W} {x : Int32} {c : Int} (h1 : x.toInt = c → G E M d mc ms A Q k n pc ls (.int x :: st) ws) (h2 : ¬ x.toInt = c → G E M d mc ms A Q k n pc ls (.int x :: st) ws) : G E M d mc ms A Q k n pc ls (.int x :: st) ws := (Decidable.em (x.toInt = c)).elim h1 h2
abbrev txtW (E : GE) (a : Nat → Nat) (k : Nat) (code ends stk : Nat → Int32) (n h : Int32) : va_W := [(a k, .inr (5, [.ref (a (k + 1)), .ref (a (k + 2)), .int n, .ref (a (k + 3)), .int h])), (a (k + 1), ia E 160 code), (a (k + 2), ia E 3 ends), (a (k + 3), ia E 160 stk)]
def stkIs : List Int32 → (Nat → Int32) → Prop
  | [], _ => True
  | x :: s, f => f s.length = x ∧ stkIs s f
theorem stkIs_up : ∀ {s : List Int32} {f : Nat → Int32} {j : Nat} (x : Int32), s.length ≤ j → stkIs s f → stkIs s (upd f j x)
  | [], _, _, _, _, _ => trivial
  | y :: s, f, j, x, hj, h => by
    simp only [List.length_cons] at hj
    exact ⟨by rw [upd_o (by omega)]; exact h.1, stkIs_up x (by omega) h.2⟩
def popv : List Int32 → Int32
  | [] => 0
  | x :: _ => x
def joinF (t l r : Int32) : Int32 :=
  if t.toInt = 9 then g_bi (¬ l.toInt = 0 ∨ ¬ r.toInt = 0)
  else if t.toInt = 10 then g_bi (¬ l.toInt = 0 ∧ ¬ r.toInt = 0)
  else if t.toInt = 15 then l + r
  else if t.toInt = 16 then l - r
  else if t.toInt = 17 then l * r
  else if t.toInt = 18 then g_bi (l.toInt < r.toInt)
  else if t.toInt = 19 then g_bi (l.toInt = r.toInt)
  else 0
def work1 (nm : Nat → Int32) (s : List Int32) (t : Int32) : List Int32 :=
  if 32 ≤ t.toInt then (t - 32) :: s
  else if 0 ≤ t.toInt ∧ t.toInt ≤ 5 then nm t.toInt.toNat :: s
  else if t.toInt = 11 then g_bi ((popv s).toInt = 0) :: s.tail
  else if t.toInt = 20 then (-popv s) :: s.tail
  else joinF t (popv s.tail) (popv s) :: s.tail.tail
section S21
variable {E : GE} {M : GM} {d mc ms : Nat} {A : Nat → Prop} {Q : Option Value → va_W → Prop} {k n pc : Nat} {ls : List (Option Value)} {st : List Value} {ws : va_W}
set_option maxRecDepth 20000 in
theorem c_X5_join (hN : g_N E) (t : Int32) (l : Int32) (q : Int32) : g_Ci E mX5_join (d + 1) [.int t, .int l, .int q] [] (fun r w => r = (joinF t l q) ∧ w = []) := by
  refine g_enter hN.1 (by decide) [some (.int t), some (.int l), some (.int q)] rfl (Nat.le_of_ble_eq_true rfl) (fun A => ?_)
  have tc0 := tc_0; have tc1 := tc_1
  refine g_iload0 dX5_join_0 (g_case (c := 9) (fun h1 => g_tsw_in (tgt := 60) 0 dX5_join_1 h1 (by decide) rfl (by decide) (g_iload1 dX5_join_60 (g_if_ne (tgt := 68) dX5_join_61 (by decide) (fun h61 => g_iconst ki_1 dX5_join_68 (g_goto (tgt := 73) dX5_join_69 (by decide) (g_iret rfl dX5_join_73 (Nat.le_of_ble_eq_true rfl) (Nat.le_of_ble_eq_true rfl) ?q73))) (fun h61 => g_iload2 dX5_join_64 (g_if_eq (tgt := 72) dX5_join_65 (by decide) (fun h65 => g_iconst ki_0 dX5_join_72 (g_iret rfl dX5_join_73 (Nat.le_of_ble_eq_true rfl) (Nat.le_of_ble_eq_true rfl) ?q73')) (fun h65 => g_iconst ki_1 dX5_join_68 (g_goto (tgt := 73) dX5_join_69 (by decide) (g_iret rfl dX5_join_73 (Nat.le_of_ble_eq_true rfl) (Nat.le_of_ble_eq_true rfl) ?q73'')))))))) (fun n1_0 => g_case (c := 10) (fun h1 => g_tsw_in (tgt := 74) 1 dX5_join_1 h1 (by decide) rfl (by decide) (g_iload1 dX5_join_74 (g_if_eq (tgt := 86) dX5_join_75 (by decide) (fun h75 => g_iconst ki_0 dX5_join_86 (g_iret rfl dX5_join_87 (Nat.le_of_ble_eq_true rfl) (Nat.le_of_ble_eq_true rfl) ?q87)) (fun h75 => g_iload2 dX5_join_78 (g_if_eq (tgt := 86) dX5_join_79 (by decide) (fun h79 => g_iconst ki_0 dX5_join_86 (g_iret rfl dX5_join_87 (Nat.le_of_ble_eq_true rfl) (Nat.le_of_ble_eq_true rfl) ?q87')) (fun h79 => g_iconst ki_1 dX5_join_82 (g_goto (tgt := 87) dX5_join_83 (by decide) (g_iret rfl dX5_join_87 (Nat.le_of_ble_eq_true rfl) (Nat.le_of_ble_eq_true rfl) ?q87'')))))))) (fun n1_1 => g_case (c := 11) (fun h1 => g_tsw_in (tgt := 122) 2 dX5_join_1 h1 (by decide) rfl (by decide) (g_iconst ki_0 dX5_join_122 (g_iret rfl dX5_join_123 (Nat.le_of_ble_eq_true rfl) (Nat.le_of_ble_eq_true rfl) ?q123))) (fun n1_2 => g_case (c := 12) (fun h1 => g_tsw_in (tgt := 122) 3 dX5_join_1 h1 (by decide) rfl (by decide) (g_iconst ki_0 dX5_join_122 (g_iret rfl dX5_join_123 (Nat.le_of_ble_eq_true rfl) (Nat.le_of_ble_eq_true rfl) ?q123'))) (fun n1_3 => g_case (c := 13) (fun h1 => g_tsw_in (tgt := 122) 4 dX5_join_1 h1 (by decide) rfl (by decide) (g_iconst ki_0 dX5_join_122 (g_iret rfl dX5_join_123 (Nat.le_of_ble_eq_true rfl) (Nat.le_of_ble_eq_true rfl) ?q123''))) (fun n1_4 => g_case (c := 14) (fun h1 => g_tsw_in (tgt := 122) 5 dX5_join_1 h1 (by decide) rfl (by decide) (g_iconst ki_0 dX5_join_122 (g_iret rfl dX5_join_123 (Nat.le_of_ble_eq_true rfl) (Nat.le_of_ble_eq_true rfl) ?q123'''))) (fun n1_5 => g_case (c := 15) (fun h1 => g_tsw_in (tgt := 110) 6 dX5_join_1 h1 (by decide) rfl (by decide) (g_iload1 dX5_join_110 (g_iload2 dX5_join_111 (g_iadd dX5_join_112 (g_iret rfl dX5_join_113 (Nat.le_of_ble_eq_true rfl) (Nat.le_of_ble_eq_true rfl) ?q113))))) (fun n1_6 => g_case (c := 16) (fun h1 => g_tsw_in (tgt := 114) 7 dX5_join_1 h1 (by decide) rfl (by decide) (g_iload1 dX5_join_114 (g_iload2 dX5_join_115 (g_isub dX5_join_116 (g_iret rfl dX5_join_117 (Nat.le_of_ble_eq_true rfl) (Nat.le_of_ble_eq_true rfl) ?q117))))) (fun n1_7 => g_case (c := 17) (fun h1 => g_tsw_in (tgt := 118) 8 dX5_join_1 h1 (by decide) rfl (by decide) (g_iload1 dX5_join_118 (g_iload2 dX5_join_119 (g_imul dX5_join_120 (g_iret rfl dX5_join_121 (Nat.le_of_ble_eq_true rfl) (Nat.le_of_ble_eq_true rfl) ?q121))))) (fun n1_8 => g_case (c := 18) (fun h1 => g_tsw_in (tgt := 88) 9 dX5_join_1 h1 (by decide) rfl (by decide) (g_iload1 dX5_join_88 (g_iload2 dX5_join_89 (g_icmp_ge (tgt := 97) dX5_join_90 (by decide) (fun h90 => g_iconst ki_0 dX5_join_97 (g_iret rfl dX5_join_98 (Nat.le_of_ble_eq_true rfl) (Nat.le_of_ble_eq_true rfl) ?q98)) (fun h90 => g_iconst ki_1 dX5_join_93 (g_goto (tgt := 98) dX5_join_94 (by decide) (g_iret rfl dX5_join_98 (Nat.le_of_ble_eq_true rfl) (Nat.le_of_ble_eq_true rfl) ?q98'))))))) (fun n1_9 => g_case (c := 19) (fun h1 => g_tsw_in (tgt := 99) 10 dX5_join_1 h1 (by decide) rfl (by decide) (g_iload1 dX5_join_99 (g_iload2 dX5_join_100 (g_icmp_ne (tgt := 108) dX5_join_101 (by decide) (fun h101 => g_iconst ki_0 dX5_join_108 (g_iret rfl dX5_join_109 (Nat.le_of_ble_eq_true rfl) (Nat.le_of_ble_eq_true rfl) ?q109)) (fun h101 => g_iconst ki_1 dX5_join_104 (g_goto (tgt := 109) dX5_join_105 (by decide) (g_iret rfl dX5_join_109 (Nat.le_of_ble_eq_true rfl) (Nat.le_of_ble_eq_true rfl) ?q109'))))))) (fun n1_10 => g_tsw_out (tgt := 122) dX5_join_1 (by omega) (by decide) (g_iconst ki_0 dX5_join_122 (g_iret rfl dX5_join_123 (Nat.le_of_ble_eq_true rfl) (Nat.le_of_ble_eq_true rfl) ?q123''''))))))))))))))
  all_goals refine ⟨_, rfl, ?_, rfl⟩
  all_goals simp [joinF, g_bi, *]
theorem r_X5_join (hN : g_N E) {idx : Nat} {t : Int32} {l : Int32} {q : Int32} (hm : MS M.1.cls idx mX5_join 3) (hd : decode M.2.1 pc = .ok (.invokestatic idx, 3)) (hk : k ≤ mc) (hn : n ≤ ms) (hr : Nat.ble (st.map fun v => v.category).sum 8 = true) (kk : G E M (d + 2) mc ms A Q k n (pc + 3) ls (.int (joinF t l q) :: st) ws) : G E M (d + 2) mc ms A Q k n pc ls (.int q :: .int l :: .int t :: st) ws :=
  g_S3i hd hm hr hk hn ((c_X5_join hN t l q).none) (fun r_ w_ hq => by obtain ⟨w1_, ⟨h1_, h2_⟩, rfl⟩ := hq; rw [List.append_nil] at h2_; rw [h1_, h2_]; exact kk)
end S21
section S21b
variable {E : GE} {d : Nat} {a : Nat → Nat} {k : Nat} {code ends stk : Nat → Int32} {n h : Int32} {s : List Int32}
set_option maxRecDepth 20000 in
theorem c_push (hN : g_N E) (hs : stkIs s stk) (hl : s.length < 160) (x : Int32) : g_Cv E mX5_push (d + 1) [.ref (a k), .int x] (txtW E a k code ends stk n (nI s.length)) (fun w => ∃ stk', w = txtW E a k code ends stk' n (nI (x :: s).length) ∧ stkIs (x :: s) stk') := by
  refine g_enterV hN.1 (by decide) [some (.ref (a k)), some (.int x)] rfl (Nat.le_of_ble_eq_true rfl) (fun A Q hQ => ?_)
  have tc1 := tc_1; have tc160 := tc_160
  have e1 := t_nI (n := s.length) (by omega)
  refine g_aload0 dX5_push_0 (g_get fl_X5_25 0 rfl rfl dX5_push_1 (g_sipush ks_160 dX5_push_4 (g_icmp_ge (tgt := 30) dX5_push_7 (by decide) (fun h7 => g_vret rfl dX5_push_30 (Nat.le_of_ble_eq_true rfl) (Nat.le_of_ble_eq_true rfl) ?q30) (fun h7 => g_aload0 dX5_push_10 (g_get fl_X5_22 0 rfl rfl dX5_push_11 (g_aload0 dX5_push_14 (g_get fl_X5_25 0 rfl rfl dX5_push_15 (g_iload1 dX5_push_18 (g_iastore 3 rfl dX5_push_19 ?b19 (g_aload0 dX5_push_20 (g_dup dX5_push_21 rfl (g_get fl_X5_25 0 rfl rfl dX5_push_22 (g_iconst ki_1 dX5_push_25 (g_iadd dX5_push_26 (g_put fl_X5_25 fp_5_4 0 rfl rfl rfl (Nat.le_of_ble_eq_true rfl) dX5_push_27 (g_vret rfl dX5_push_30 (Nat.le_of_ble_eq_true rfl) (Nat.le_of_ble_eq_true rfl) ?q30'))))))))))))))))
  case q30 => omega
  case q30' =>
    refine hQ _ ⟨upd stk s.length x, ?_, upd_s, stkIs_up x (Nat.le_refl _) hs⟩
    rw [e1, Int.toNat_natCast]
    simp only [List.length_cons, ← nI_1]
    rfl
  all_goals omega
set_option maxRecDepth 20000 in
theorem c_pop (hN : g_N E) (hs : stkIs s stk) (hl : s.length ≤ 160) : g_Ci E mX5_pop (d + 1) [.ref (a k)] (txtW E a k code ends stk n (nI s.length)) (fun r w => r = popv s ∧ w = txtW E a k code ends stk n (nI s.tail.length) ∧ stkIs s.tail stk) := by
  refine g_enterI hN.1 (by decide) [some (.ref (a k))] rfl (Nat.le_of_ble_eq_true rfl) (fun A Q hQ => ?_)
  have tc0 := tc_0; have tc1 := tc_1
  have e1 := t_nI (n := s.length) (by omega)
  cases s with
  | nil =>
    have e1 : (nI 0).toInt = 0 := by decide
    refine g_aload0 dX5_pop_0 (g_get fl_X5_25 0 rfl rfl dX5_pop_1 (g_if_gt (tgt := 9) dX5_pop_4 (by decide) (fun h4 => ?s9) (fun h4 => g_iconst ki_0 dX5_pop_7 (g_iret rfl dX5_pop_8 (Nat.le_of_ble_eq_true rfl) (Nat.le_of_ble_eq_true rfl) ?q8))))
    case s9 => simp only [List.length_nil] at h4; omega
    case q8 => exact hQ _ _ ⟨rfl, rfl, trivial⟩
  | cons x s =>
    simp only [List.length_cons] at e1 hl ⊢
    have e2 : nI (s.length + 1) - 1 = nI s.length := nI_pred _
    have e3 := t_nI (n := s.length) (by omega)
    refine g_aload0 dX5_pop_0 (g_get fl_X5_25 0 rfl rfl dX5_pop_1 (g_if_gt (tgt := 9) dX5_pop_4 (by decide) (fun h4 => g_aload0 dX5_pop_9 (g_dup dX5_pop_10 rfl (g_get fl_X5_25 0 rfl rfl dX5_pop_11 (g_iconst ki_1 dX5_pop_14 (g_isub dX5_pop_15 (g_put fl_X5_25 fp_5_4 0 rfl rfl rfl (Nat.le_of_ble_eq_true rfl) dX5_pop_16 (g_aload0 dX5_pop_19 (g_get fl_X5_22 0 rfl rfl dX5_pop_20 (g_aload0 dX5_pop_23 (g_get fl_X5_25 0 rfl rfl dX5_pop_24 (g_iaload 3 rfl dX5_pop_27 ?b27_2 (g_iret rfl dX5_pop_28 (Nat.le_of_ble_eq_true rfl) (Nat.le_of_ble_eq_true rfl) ?q28_2)))))))))))) (fun h4 => g_iconst ki_0 dX5_pop_7 (g_iret rfl dX5_pop_8 (Nat.le_of_ble_eq_true rfl) (Nat.le_of_ble_eq_true rfl) ?q8_2))))
    case q8_2 => omega
    case b27_2 => rw [e2, e3]; omega
    case q28_2 =>
      rw [e2, e3, Int.toNat_natCast]
      exact hQ _ _ ⟨hs.1, rfl, hs.2⟩
theorem work1_len (nm : Nat → Int32) (s : List Int32) (t : Int32) : (work1 nm s t).length ≤ s.length + 1 := by
  unfold work1
  repeat' split
  all_goals simp only [List.length_cons, List.length_tail]
  all_goals omega
set_option maxRecDepth 20000 in
set_option maxHeartbeats 1000000 in
theorem c_work (hN : g_N E) (hs : stkIs s stk) (hl : s.length < 160) (t : Int32) (b : Nat) (nm : Nat → Int32) : g_Cv E mX5_work (d + 3) [.ref (a k), .int t, .ref b] (txtW E a k code ends stk n (nI s.length) ++ [(b, ia E 6 nm)]) (fun w => ∃ stk', w = txtW E a k code ends stk' n (nI (work1 nm s t).length) ++ [(b, ia E 6 nm)] ∧ stkIs (work1 nm s t) stk') := by
  refine g_enterV hN.1 (by decide) [some (.ref (a k)), some (.int t), some (.ref b), none, none] rfl (Nat.le_of_ble_eq_true rfl) (fun A Q hQ => ?_)
  have tc0 := tc_0; have tc1 := tc_1; have tc5 := tc_5; have tc11 := tc_11; have tc20 := tc_20; have tc32 := tc_32
  have hln : s.tail.length ≤ s.length := by simp
  have hln2 : s.tail.tail.length ≤ s.length := by simp; omega
  have fin : ∀ l3 l4 stk' s', work1 nm s t = s' → stkIs s' stk' → G E mX5_work (d + 3) 0 0 A Q 0 0 101 [some (.ref (a k)), some (.int t), some (.ref b), l3, l4] [] (txtW E a k code ends stk' n (nI s'.length) ++ [(b, ia E 6 nm)]) := by
    intro l3 l4 stk' s' h1 h2
    refine g_vret rfl dX5_work_101 (Nat.le_of_ble_eq_true rfl) (Nat.le_of_ble_eq_true rfl) ?q101
    exact hQ _ ⟨stk', by rw [h1], by rw [h1]; exact h2⟩
  refine g_iload1 dX5_work_0 (g_bipush kb_32 dX5_work_1 (g_icmp_lt (tgt := 17) dX5_work_3 (by decide) (fun h3 => g_iload1 dX5_work_17 (g_iconst ki_0 dX5_work_18 (g_iconst ki_5 dX5_work_19 (r_X7_isWithinN hN (mn_X5_32 hN) dX5_work_20 (Nat.le_of_ble_eq_true rfl) (Nat.le_of_ble_eq_true rfl) rfl (g_if_eq (tgt := 36) dX5_work_23 (by decide) (fun h23 => g_iload1 dX5_work_36 (g_bipush kb_11 dX5_work_37 (g_icmp_ne (tgt := 61) dX5_work_39 (by decide) (fun h39 => g_iload1 dX5_work_61 (g_bipush kb_20 dX5_work_62 (g_icmp_ne (tgt := 79) dX5_work_64 (by decide) (fun h64 => g_aload0 dX5_work_79 (?c80_2)) (fun h64 => g_aload0 dX5_work_67 (g_aload0 dX5_work_68 (?c69_2)))))) (fun h39 => g_aload0 dX5_work_42 (g_aload0 dX5_work_43 (?c44_2)))))) (fun h23 => g_aload0 dX5_work_26 (g_aload2 dX5_work_27 (g_iload1 dX5_work_28 (g_iaload 4 rfl dX5_work_29 ?b29_2 (?c30_2)))))))))) (fun h3 => g_aload0 dX5_work_6 (g_iload1 dX5_work_7 (g_bipush kb_32 dX5_work_8 (g_isub dX5_work_10 (?c11_2)))))))
  case c11_2 =>
    refine g_V1v dX5_work_11 mv_X5_46 0 rfl rfl rfl (Nat.le_of_ble_eq_true rfl) (Nat.le_of_ble_eq_true rfl) ((c_push hN hs hl (t - 32)).frame (X := []) (Y := [(b, ia E 6 nm)])) (fun w1 hq => ?_)
    obtain ⟨w2, ⟨stk', rfl, h2⟩, rfl⟩ := hq
    refine g_goto (tgt := 101) dX5_work_14 (by decide) (?s101_3)
    exact fin _ _ _ _ (by unfold work1; rw [if_pos (by omega)]) h2
  case c30_2 =>
    have hb := (g_biz (p := ((0 : Int32).toInt ≤ t.toInt ∧ t.toInt ≤ (5 : Int32).toInt)))
    refine g_V1v dX5_work_30 mv_X5_46 0 rfl rfl rfl (Nat.le_of_ble_eq_true rfl) (Nat.le_of_ble_eq_true rfl) ((c_push hN hs hl _).frame (X := []) (Y := [(b, ia E 6 nm)])) (fun w1 hq => ?_)
    obtain ⟨w2, ⟨stk', rfl, h2⟩, rfl⟩ := hq
    refine g_goto (tgt := 101) dX5_work_33 (by decide) (?s101_4)
    exact fin _ _ _ _ (by unfold work1; rw [if_neg (by omega), if_pos (by omega)]) h2
  case b29_2 => have hb := (g_biz (p := ((0 : Int32).toInt ≤ t.toInt ∧ t.toInt ≤ (5 : Int32).toInt))); omega
  case c44_2 =>
    have hb := (g_biz (p := ((0 : Int32).toInt ≤ t.toInt ∧ t.toInt ≤ (5 : Int32).toInt)))
    have hw : work1 nm s t = g_bi ((popv s).toInt = 0) :: s.tail := by unfold work1; rw [if_neg (by omega), if_neg (by omega), if_pos (by omega)]
    refine g_V0i dX5_work_44 mv_X5_42 0 rfl rfl rfl (Nat.le_of_ble_eq_true rfl) (Nat.le_of_ble_eq_true rfl) ((c_pop hN hs (by omega)).frame (X := []) (Y := [(b, ia E 6 nm)])) (fun r1 w1 hq => ?_)
    obtain ⟨w2, ⟨rfl, rfl, h2⟩, rfl⟩ := hq
    refine g_if_ne (tgt := 54) dX5_work_47 (by decide) (fun h47 => g_iconst ki_0 dX5_work_54 (?s55_5)) (fun h47 => g_iconst ki_1 dX5_work_50 (g_goto (tgt := 55) dX5_work_51 (by decide) (?s55_5')))
    case s55_5 =>
      refine g_V1v dX5_work_55 mv_X5_46 0 rfl rfl rfl (Nat.le_of_ble_eq_true rfl) (Nat.le_of_ble_eq_true rfl) ((c_push hN h2 (by omega) _).frame (X := []) (Y := [(b, ia E 6 nm)])) (fun w1 hq => ?_)
      obtain ⟨w2, ⟨stk', rfl, h3⟩, rfl⟩ := hq
      refine g_goto (tgt := 101) dX5_work_58 (by decide) (?s101_6)
      exact fin _ _ _ _ (by rw [hw, g_bi0 (by omega)]) h3
    case s55_5' =>
      refine g_V1v dX5_work_55 mv_X5_46 0 rfl rfl rfl (Nat.le_of_ble_eq_true rfl) (Nat.le_of_ble_eq_true rfl) ((c_push hN h2 (by omega) _).frame (X := []) (Y := [(b, ia E 6 nm)])) (fun w1 hq => ?_)
      obtain ⟨w2, ⟨stk', rfl, h3⟩, rfl⟩ := hq
      refine g_goto (tgt := 101) dX5_work_58 (by decide) (?s101_7)
      exact fin _ _ _ _ (by rw [hw, g_bi1 (by omega)]) h3
  case c69_2 =>
    have hb := (g_biz (p := ((0 : Int32).toInt ≤ t.toInt ∧ t.toInt ≤ (5 : Int32).toInt)))
    refine g_V0i dX5_work_69 mv_X5_42 0 rfl rfl rfl (Nat.le_of_ble_eq_true rfl) (Nat.le_of_ble_eq_true rfl) ((c_pop hN hs (by omega)).frame (X := []) (Y := [(b, ia E 6 nm)])) (fun r1 w1 hq => ?_)
    obtain ⟨w2, ⟨rfl, rfl, h2⟩, rfl⟩ := hq
    refine g_ineg dX5_work_72 (?c73_8)
    refine g_V1v dX5_work_73 mv_X5_46 0 rfl rfl rfl (Nat.le_of_ble_eq_true rfl) (Nat.le_of_ble_eq_true rfl) ((c_push hN h2 (by omega) _).frame (X := []) (Y := [(b, ia E 6 nm)])) (fun w1 hq => ?_)
    obtain ⟨w2, ⟨stk', rfl, h3⟩, rfl⟩ := hq
    refine g_goto (tgt := 101) dX5_work_76 (by decide) (?s101_9)
    exact fin _ _ _ _ (by unfold work1; rw [if_neg (by omega), if_neg (by omega), if_neg (by omega), if_pos (by omega)]) h3
  case c80_2 =>
    have hb := (g_biz (p := ((0 : Int32).toInt ≤ t.toInt ∧ t.toInt ≤ (5 : Int32).toInt)))
    refine g_V0i dX5_work_80 mv_X5_42 0 rfl rfl rfl (Nat.le_of_ble_eq_true rfl) (Nat.le_of_ble_eq_true rfl) ((c_pop hN hs (by omega)).frame (X := []) (Y := [(b, ia E 6 nm)])) (fun r1 w1 hq => ?_)
    obtain ⟨w2, ⟨rfl, rfl, h2⟩, rfl⟩ := hq
    refine g_istore3 dX5_work_83 rfl rfl (g_aload0 dX5_work_84 (?c85_10))
    refine g_V0i dX5_work_85 mv_X5_42 0 rfl rfl rfl (Nat.le_of_ble_eq_true rfl) (Nat.le_of_ble_eq_true rfl) ((c_pop hN h2 (by omega)).frame (X := []) (Y := [(b, ia E 6 nm)])) (fun r1 w1 hq => ?_)
    obtain ⟨w2, ⟨rfl, rfl, h3⟩, rfl⟩ := hq
    refine g_istore4 dX5_work_88 rfl rfl (g_aload0 dX5_work_90 (g_iload1 dX5_work_91 (g_iload4 dX5_work_92 (g_iload3 dX5_work_94 (r_X5_join hN mv_X5_49 dX5_work_95 (Nat.le_of_ble_eq_true rfl) (Nat.le_of_ble_eq_true rfl) rfl (?c98_11))))))
    refine g_V1v dX5_work_98 mv_X5_46 0 rfl rfl rfl (Nat.le_of_ble_eq_true rfl) (Nat.le_of_ble_eq_true rfl) ((c_push hN h3 (by omega) _).frame (X := []) (Y := [(b, ia E 6 nm)])) (fun w1 hq => ?_)
    obtain ⟨w2, ⟨stk', rfl, h4⟩, rfl⟩ := hq
    exact fin _ _ _ _ (by unfold work1; rw [if_neg (by omega), if_neg (by omega), if_neg (by omega), if_neg (by omega)]) h4
end S21b
