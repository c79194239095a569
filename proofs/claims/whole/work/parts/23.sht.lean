/-! sheets -/
abbrev shtW (E : GE) (a : Nat → Nat) (k : Nat) (it : Nat → Int32) (so n : Int32) : va_W := [(a k, .inr (4, [.ref (a (k + 1)), .int so, .int n])), (a (k + 1), ia E 40 it)]
def Sht (E : GE) (a : Nat → Nat) (k : Nat) (so : Int32) (V : List Int32) (w : va_W) : Prop := V.length ≤ 40 ∧ ∃ it, w = shtW E a k it so (nI V.length) ∧ ∀ (i : Nat) (x : Int32), V[i]? = some x → it i = x
theorem Sht.mk {E : GE} {a : Nat → Nat} {k : Nat} {so n : Int32} {V : List Int32} {w : va_W} {it : Nat → Int32} (hw : w = shtW E a k it so n) (hn : n = nI V.length) (hl : V.length ≤ 40) (h : ∀ (i : Nat) (x : Int32), V[i]? = some x → it i = x) : Sht E a k so V w := ⟨hl, it, by rw [hw, hn], h⟩
def cnv (so v : Int32) : Int32 := if so.toInt = 0 then v.toInt8.toInt32 else if so.toInt = 1 then v.toInt16.toInt32 else v
theorem g_lsw_2 {E : GE} {M : GM} {d mc ms : Nat} {A : Nat → Prop} {Q : Option Value → va_W → Prop} {k n pc : Nat} {ls : List (Option Value)} {st : List Value} {ws : va_W} {x : Int32} {dflt off : Int} {ps : Array (Int × Int)} {len tgt : Nat} (hd : decode M.2.1 pc = .ok (.lookupswitch dflt ps, len)) (hp : (ps.toList.zip (ps.toList.drop 1)).all (fun (a, next) => a.1 < next.1) = true) (ho : Op.lookupswitch.offset ps.toList dflt x.toInt = off) (ht : (pc : Int) + off = (tgt : Int)) (kk : G E M d mc ms A Q k n tgt ls st ws) : G E M d mc ms A Q k n pc ls (.int x :: st) ws := by
  intro p e s m args below meth c H locs ls0 hc hP hD hS hl
  exact lv_lookup hc.1 hc.2.1 hd hp ho ht (kk p e s m args below meth c H locs ls0 hc hP hD hS hl)
section S23
variable {E : GE} {d : Nat} {a : Nat → Nat} {k : Nat} {so : Int32} {V : List Int32} {w : va_W}
set_option maxRecDepth 20000 in
set_option maxHeartbeats 1000000 in
theorem c_shtBecome (hN : g_N E) (hw : Sht E a k so V w) (so2 m : Int32) (h0 : 0 ≤ m.toInt) (h4 : m.toInt ≤ 40) : g_Cv E mX4_become (d + 1) [.ref (a k), .int so2, .int m] w (fun w' => Sht E a k so2 (List.replicate m.toInt.toNat 0) w') := by
  obtain ⟨hn, it, rfl, hV⟩ := hw
  refine g_enterV hN.1 (by decide) [some (.ref (a k)), some (.int so2), some (.int m), none] rfl (Nat.le_of_ble_eq_true rfl) (fun A Q hQ => ?_)
  have tc0 := tc_0; have tc1 := tc_1; have tc40 := tc_40
  have e1 : (if m < 40 then m else 40) = m := by
    have := t_min 40 m
    exact t_ext (by rw [this]; omega)
  have e2 : (if (0 : Int32) < m then m else 0) = m := by
    have := t_max 0 m
    exact t_ext (by rw [this]; omega)
  have loop : ∀ t i f, i + t = 40 → (∀ j, j < i → f j = 0) → G E mX4_become (d + 1) 0 0 A Q 0 0 21 [some (.ref (a k)), some (.int so2), some (.int m), some (.int (nI i))] [] (shtW E a k f so2 m) := by
    intro t
    induction t with
    | zero =>
      intro i f hi hf
      have e3 := t_nI (n := i) (by omega)
      refine g_iload3 dX4_become_21 (g_bipush kb_40 dX4_become_22 (g_icmp_ge (tgt := 40) dX4_become_24 (by decide) (fun h24 => g_vret rfl dX4_become_40 (Nat.le_of_ble_eq_true rfl) (Nat.le_of_ble_eq_true rfl) ?q40) (fun h24 => ?s27)))
      case s27 => omega
      case q40 =>
        refine hQ _ (Sht.mk rfl ?_ ?_ ?_)
        · rw [List.length_replicate]; exact t_of h0
        · rw [List.length_replicate]; omega
        · intro j x hj
          have := (List.getElem?_eq_some_iff.mp hj).1
          rw [List.length_replicate] at this
          have := List.eq_of_mem_replicate (List.mem_of_getElem? hj)
          rw [this]; exact hf j (by omega)
    | succ t ih =>
      intro i f hi hf
      have e3 := t_nI (n := i) (by omega)
      refine g_iload3 dX4_become_21 (g_bipush kb_40 dX4_become_22 (g_icmp_ge (tgt := 40) dX4_become_24 (by decide) (fun h24 => g_vret rfl dX4_become_40 (Nat.le_of_ble_eq_true rfl) (Nat.le_of_ble_eq_true rfl) ?q40_2) (fun h24 => g_aload0 dX4_become_27 (g_get fl_X4_9 0 rfl rfl dX4_become_28 (g_iload3 dX4_become_31 (g_iconst ki_0 dX4_become_32 (g_iastore 1 rfl dX4_become_33 ?b33_2 (g_iinc3 ki_1 dX4_become_34 rfl rfl (g_goto (tgt := 21) dX4_become_37 (by decide) (?s21_2))))))))))
      case q40_2 => omega
      case b33_2 => omega
      case s21_2 =>
        rw [nI_1]
        refine ih (i + 1) _ (by omega) ?_
        intro j hj
        rw [e3, Int.toNat_natCast]
        by_cases hji : j = i
        · subst hji; rw [upd_s]
        · rw [upd_o hji]; exact hf j (by omega)
  refine g_aload0 dX4_become_0 (g_iload1 dX4_become_1 (g_put fl_X4_15 fp_4_1 0 rfl rfl rfl (Nat.le_of_ble_eq_true rfl) dX4_become_2 (g_aload0 dX4_become_5 (g_iconst ki_0 dX4_become_6 (g_bipush kb_40 dX4_become_7 (g_iload2 dX4_become_9 (g_mmin wm_X4_22 dX4_become_10 (Nat.le_of_ble_eq_true rfl) (Nat.le_of_ble_eq_true rfl) rfl (g_mmax wm_X4_28 dX4_become_13 (Nat.le_of_ble_eq_true rfl) (Nat.le_of_ble_eq_true rfl) rfl (g_put fl_X4_19 fp_4_2 0 rfl rfl rfl (Nat.le_of_ble_eq_true rfl) dX4_become_16 (g_iconst ki_0 dX4_become_19 (g_istore3 dX4_become_20 rfl rfl (?s21_3))))))))))))
  rw [e1, e2]
  exact loop 40 0 it rfl (fun j h => absurd h (Nat.not_lt_zero j))
set_option maxRecDepth 20000 in
theorem c_holds (hN : g_N E) {it : Nat → Int32} {n : Int32} (hn : 0 ≤ n.toInt) (i : Int32) : g_Ci E mX4_holds (d + 2) [.ref (a k), .int i] (shtW E a k it so n) (fun r w' => r = g_bi (0 ≤ i.toInt ∧ i.toInt < n.toInt) ∧ w' = shtW E a k it so n) := by
  refine g_enterI hN.1 (by decide) [some (.ref (a k)), some (.int i)] rfl (Nat.le_of_ble_eq_true rfl) (fun A Q hQ => ?_)
  have tc0 := tc_0; have tc1 := tc_1
  have e1 : (n - 1).toInt = n.toInt - 1 := by have := t_hi n; rw [t_sub (by omega) (by omega)]; omega
  refine g_iload1 dX4_holds_0 (g_iconst ki_0 dX4_holds_1 (g_aload0 dX4_holds_2 (g_get fl_X4_19 0 rfl rfl dX4_holds_3 (g_iconst ki_1 dX4_holds_6 (g_isub dX4_holds_7 (r_X7_isWithinN hN (mn_X4_31 hN) dX4_holds_8 (Nat.le_of_ble_eq_true rfl) (Nat.le_of_ble_eq_true rfl) rfl (g_zret rfl (by first | exact g_bi01 _ | exact Or.inl rfl | exact Or.inr rfl) dX4_holds_11 (Nat.le_of_ble_eq_true rfl) (Nat.le_of_ble_eq_true rfl) ?q11)))))))
  refine hQ _ _ ⟨?_, rfl⟩
  by_cases h : 0 ≤ i.toInt ∧ i.toInt < n.toInt
  · rw [g_bi1 h, g_bi1 (by omega)]
  · rw [g_bi0 h, g_bi0 (by omega)]
set_option maxRecDepth 20000 in
theorem c_holdsStretch (hN : g_N E) {it : Nat → Int32} {n : Int32} (hn : 0 ≤ n.toInt) (hn2 : n.toInt ≤ 40) (f m : Int32) : g_Ci E mX4_holdsStretch (d + 1) [.ref (a k), .int f, .int m] (shtW E a k it so n) (fun r w' => r = g_bi (0 ≤ m.toInt ∧ m.toInt ≤ n.toInt ∧ 0 ≤ f.toInt ∧ f.toInt ≤ n.toInt - m.toInt) ∧ w' = shtW E a k it so n) := by
  refine g_enterI hN.1 (by decide) [some (.ref (a k)), some (.int f), some (.int m)] rfl (Nat.le_of_ble_eq_true rfl) (fun A Q hQ => ?_)
  have tc0 := tc_0; have tc1 := tc_1
  have hm := t_hi m
  have e1 : 0 ≤ m.toInt → (n - m).toInt = n.toInt - m.toInt := fun h => t_sub (by omega) (by omega)
  refine g_iload2 dX4_holdsStretch_0 (g_if_lt (tgt := 30) dX4_holdsStretch_1 (by decide) (fun h1 => g_iconst ki_0 dX4_holdsStretch_30 (g_zret rfl (by first | exact g_bi01 _ | exact Or.inl rfl | exact Or.inr rfl) dX4_holdsStretch_31 (Nat.le_of_ble_eq_true rfl) (Nat.le_of_ble_eq_true rfl) ?q31)) (fun h1 => g_iload2 dX4_holdsStretch_4 (g_aload0 dX4_holdsStretch_5 (g_get fl_X4_19 0 rfl rfl dX4_holdsStretch_6 (g_icmp_gt (tgt := 30) dX4_holdsStretch_9 (by decide) (fun h9 => g_iconst ki_0 dX4_holdsStretch_30 (g_zret rfl (by first | exact g_bi01 _ | exact Or.inl rfl | exact Or.inr rfl) dX4_holdsStretch_31 (Nat.le_of_ble_eq_true rfl) (Nat.le_of_ble_eq_true rfl) ?q31')) (fun h9 => g_iload1 dX4_holdsStretch_12 (g_if_lt (tgt := 30) dX4_holdsStretch_13 (by decide) (fun h13 => g_iconst ki_0 dX4_holdsStretch_30 (g_zret rfl (by first | exact g_bi01 _ | exact Or.inl rfl | exact Or.inr rfl) dX4_holdsStretch_31 (Nat.le_of_ble_eq_true rfl) (Nat.le_of_ble_eq_true rfl) ?q31'')) (fun h13 => g_iload1 dX4_holdsStretch_16 (g_aload0 dX4_holdsStretch_17 (g_get fl_X4_19 0 rfl rfl dX4_holdsStretch_18 (g_iload2 dX4_holdsStretch_21 (g_isub dX4_holdsStretch_22 (g_icmp_gt (tgt := 30) dX4_holdsStretch_23 (by decide) (fun h23 => g_iconst ki_0 dX4_holdsStretch_30 (g_zret rfl (by first | exact g_bi01 _ | exact Or.inl rfl | exact Or.inr rfl) dX4_holdsStretch_31 (Nat.le_of_ble_eq_true rfl) (Nat.le_of_ble_eq_true rfl) ?q31''')) (fun h23 => g_iconst ki_1 dX4_holdsStretch_26 (g_goto (tgt := 31) dX4_holdsStretch_27 (by decide) (g_zret rfl (by first | exact g_bi01 _ | exact Or.inl rfl | exact Or.inr rfl) dX4_holdsStretch_31 (Nat.le_of_ble_eq_true rfl) (Nat.le_of_ble_eq_true rfl) ?q31''''))))))))))))))))
  all_goals refine hQ _ _ ⟨?_, rfl⟩
  all_goals first | (rw [g_bi1 (by omega)]) | (rw [g_bi0 (by omega)])
set_option maxRecDepth 20000 in
theorem c_write (hN : g_N E) (hw : Sht E a k so V w) (i v : Int32) (hi : 0 ≤ i.toInt ∧ i.toInt < V.length) : g_Cv E mX4_write (d + 3) [.ref (a k), .int i, .int v] w (fun w' => Sht E a k so (V.set i.toInt.toNat (cnv so v)) w') := by
  obtain ⟨hn, it, rfl, hV⟩ := hw
  refine g_enterV hN.1 (by decide) [some (.ref (a k)), some (.int i), some (.int v)] rfl (Nat.le_of_ble_eq_true rfl) (fun A Q hQ => ?_)
  skip
  have e1 := t_nI (n := V.length) (by omega)
  have fin : ∀ x, x = cnv so v → G E mX4_write (d + 3) 0 0 A Q 0 0 69 [some (.ref (a k)), some (.int i), some (.int v)] [] (shtW E a k (upd it i.toInt.toNat x) so (nI V.length)) := by
    intro x hx
    refine g_vret rfl dX4_write_69 (Nat.le_of_ble_eq_true rfl) (Nat.le_of_ble_eq_true rfl) ?q69
    refine hQ _ (Sht.mk rfl (by rw [List.length_set]) (by rw [List.length_set]; exact hn) ?_)
    intro j y hj
    by_cases hji : j = i.toInt.toNat
    · subst hji
      rw [upd_s, hx]
      rw [List.getElem?_set_self (by omega)] at hj
      exact Option.some.inj hj
    · rw [upd_o hji]
      rw [List.getElem?_set_ne (Ne.symm hji)] at hj
      exact hV j y hj
  refine g_aload0 dX4_write_0 (g_iload1 dX4_write_1 (?c2_2))
  refine g_V1i dX4_write_2 mv_X4_35 0 rfl rfl rfl (Nat.le_of_ble_eq_true rfl) (Nat.le_of_ble_eq_true rfl) (c_holds hN (by omega) i) (fun r1 w1 hq => ?_)
  obtain ⟨rfl, rfl⟩ := hq
  have hb := g_biz (p := (0 ≤ i.toInt ∧ i.toInt < (nI V.length).toInt))
  refine g_if_ne (tgt := 9) dX4_write_5 (by decide) (fun h5 => g_aload0 dX4_write_9 (g_get fl_X4_15 0 rfl rfl dX4_write_10 (?c13_3))) (fun h5 => g_vret rfl dX4_write_8 (Nat.le_of_ble_eq_true rfl) (Nat.le_of_ble_eq_true rfl) ?q8_3)
  case q8_3 => omega
  case c13_3 =>
    by_cases h0 : so.toInt = 0
    · refine g_lsw_2 (tgt := 40) dX4_write_13 (by decide) (by rw [h0]) (by decide) ?_
      refine g_aload0 dX4_write_40 (g_get fl_X4_9 0 rfl rfl dX4_write_41 (g_iload1 dX4_write_44 (g_iload2 dX4_write_45 (g_i2b dX4_write_46 (g_iastore 1 rfl dX4_write_47 ?b47_4 (g_goto (tgt := 69) dX4_write_48 (by decide) (?s69_4)))))))
      case b47_4 => omega
      exact fin _ (by unfold cnv; rw [if_pos h0])
    · by_cases h1 : so.toInt = 1
      · refine g_lsw_2 (tgt := 51) dX4_write_13 (by decide) (by rw [h1]) (by decide) ?_
        refine g_aload0 dX4_write_51 (g_get fl_X4_9 0 rfl rfl dX4_write_52 (g_iload1 dX4_write_55 (g_iload2 dX4_write_56 (g_i2s dX4_write_57 (g_iastore 1 rfl dX4_write_58 ?b58_5 (g_goto (tgt := 69) dX4_write_59 (by decide) (?s69_5)))))))
        case b58_5 => omega
        exact fin _ (by unfold cnv; rw [if_neg h0, if_pos h1])
      · refine g_lsw_2 (off := 49) (tgt := 62) dX4_write_13 (by decide) (by simp [Op.lookupswitch.offset, Ne.symm h0, Ne.symm h1]) (by decide) ?_
        refine g_aload0 dX4_write_62 (g_get fl_X4_9 0 rfl rfl dX4_write_63 (g_iload1 dX4_write_66 (g_iload2 dX4_write_67 (g_iastore 1 rfl dX4_write_68 ?b68_6 (?s69_6)))))
        case b68_6 => omega
        exact fin _ (by unfold cnv; rw [if_neg h0, if_neg h1])
end S23
