/-! the worth of a set, take -/
abbrev inM (m : Int32) (y : Nat) : Prop := ¬ (m &&& (1 <<< (nI y &&& 31))).toInt = 0
def wsI (D : Dg) (C : List Int32) (e : Nat → Nat) (m : Int32) (x : Nat) : Nat → Int
  | 0 => 0
  | t + 1 => wsI D C e m x t + (if inM m (x + 1 + t) then rhI D C e 1 x (x + 1 + t) else 0)
def wsF (D : Dg) (C : List Int32) (e : Nat → Nat) (m : Int32) : Nat → Int
  | 0 => 0
  | t + 1 => wsF D C e m t + (if inM m t then wsI D C e m t (D.1.length - 1 - t) - 3 * (D.2.1.getD t 0 : Nat) else 0)
theorem wsI_b (D : Dg) (C : List Int32) (e : Nat → Nat) (m : Int32) (x : Nat) : ∀ t : Nat, -(99 * (t : Int)) ≤ wsI D C e m x t ∧ wsI D C e m x t ≤ 99 * (t : Int)
  | 0 => by unfold wsI; omega
  | t + 1 => by
    have h1 := wsI_b D C e m x t
    unfold wsI rhI
    have h2 := fun nm => rlI_1 C e nm 1
    generalize nmF _ _ _ _ _ _ = nm
    have := h2 nm
    split <;> omega
theorem wsF_b {D : Dg} (hD : dgOK D) (C : List Int32) (e : Nat → Nat) (m : Int32) : ∀ t : Nat, t ≤ D.1.length → -(1000 * (t : Int)) ≤ wsF D C e m t ∧ wsF D C e m t ≤ 1000 * (t : Int)
  | 0, _ => by unfold wsF; omega
  | t + 1, h => by
    have h1 := wsF_b hD C e m t (by omega)
    have h2 := wsI_b D C e m t (D.1.length - 1 - t)
    have hn := hD.1
    obtain ⟨-, l1, l2, l3, l4, b1, b2, -⟩ := id hD
    have g := getD_at (l := D.2.1) (i := t) (by omega)
    have := b2 _ (List.mem_of_getElem? g)
    unfold wsF
    split <;> omega
section S62
variable {E : GE} {d : Nat} {a : Nat → Nat} {im tc : Int32} {w : va_W} {adK adV ta : Nat → Nat} {e : Nat → Nat} {C : List Int32} {D : Dg} {r : Nat} {L : List Cr} {wo : Nat → Int32}
set_option maxRecDepth 20000 in
set_option maxHeartbeats 4000000 in
theorem c_worthOf (hN : g_N E) (hw : Awt E a D r L im tc C e wo w) (hdn : dnT D C e D.1.length 0 wo) (m : Int32) : g_Ci E mX7_worthOf (d + 2) [.ref (a 0), .int m] w (fun z w' => z.toInt = wsF D C e m D.1.length ∧ w' = w) := by
  obtain ⟨w1, hA, rfl⟩ := hw
  have hA0 := hA
  obtain ⟨w1, nm, wt, hA1, hr6, hok, hT, rfl⟩ := hA
  obtain ⟨kd, pc, nb, hs, od, pl, ov, on, ot, be, rfl, hD, j1, j2, j3, j4, j5, hL, hpk, hrw⟩ := hA1.lit
  obtain ⟨-, code, ends, stk, hh, rfl, -⟩ := hT
  obtain ⟨hn, l1, l2, l3, l4, b1, b2, b3, b4, b5, hnd⟩ := id hD
  have eD := t_nI (n := D.1.length) (by omega)
  refine g_enterI hN.1 (by decide) [some (.ref (a 0)), some (.int m), none, none, none] rfl (Nat.le_of_ble_eq_true rfl) (fun A Q hQ => ?_)
  have tc0 := tc_0; have tc1 := tc_1; have tc3 := tc_3; have tc6 := tc_6
  have e3 : (3 : Int32).toInt = 3 := by decide
  have outer : ∀ t x (v : Int32) q4, x + t = D.1.length → v.toInt = wsF D C e m x → G E mX7_worthOf (d + 2) 0 0 A Q 0 0 4 [some (.ref (a 0)), some (.int m), some (.int v), some (.int (nI x)), q4] [] ((((a 0, dolO a im tc) :: (packW E a 1 kd pc nb hs od (nI D.1.length) (nI r) ++ rowW E a 7 pl ov on ot be (nI L.length))) ++ ((a 48, raT E a) :: (a 49, ia E 6 nm) :: txtW E a (54 + 4 * r) code ends stk (nI C.length) hh)) ++ [(a 53, ia E 36 wo)]) := by
    intro t
    induction t with
    | zero =>
      intro x v q4 hx hv
      have ex := t_nI (n := x) (by omega)
      refine g_iload3 dX7_worthOf_4 (g_aload0 dX7_worthOf_5 (g_get fl_X7_10 0 rfl rfl dX7_worthOf_6 (g_get fl_X7_110 1 rfl rfl dX7_worthOf_9 (g_icmp_ge (tgt := 95) dX7_worthOf_12 (by decide) (fun h12 => g_iload2 dX7_worthOf_95 (g_iret rfl dX7_worthOf_96 (Nat.le_of_ble_eq_true rfl) (Nat.le_of_ble_eq_true rfl) ?q96)) (fun h12 => ?s15)))))
      case s15 => omega
      case q96 => exact hQ _ _ ⟨by rw [hv, show x = D.1.length by omega], rfl⟩
    | succ t ih =>
      intro x v q4 hx hv
      have ex := t_nI (n := x) (by omega)
      have hb0 := wsF_b hD C e m x (by omega)
      have g := getD_at (l := D.2.1) (i := x) (by omega)
      have gb := b2 _ (List.mem_of_getElem? g)
      have ep := t_nI (n := D.2.1.getD x 0) (by omega)
      have em : (3 * nI (D.2.1.getD x 0)).toInt = 3 * ((D.2.1.getD x 0 : Nat) : Int) := by rw [t_mul (by rw [e3, ep]; omega) (by rw [e3, ep]; omega), e3, ep]
      have inner : ∀ u y (v : Int32), y + u = D.1.length - 1 - x → inM m x → v.toInt = wsF D C e m x - 3 * (D.2.1.getD x 0 : Nat) + wsI D C e m x y → G E mX7_worthOf (d + 2) 0 0 A Q 0 0 46 [some (.ref (a 0)), some (.int m), some (.int v), some (.int (nI x)), some (.int (nI (x + 1 + y)))] [] ((((a 0, dolO a im tc) :: (packW E a 1 kd pc nb hs od (nI D.1.length) (nI r) ++ rowW E a 7 pl ov on ot be (nI L.length))) ++ ((a 48, raT E a) :: (a 49, ia E 6 nm) :: txtW E a (54 + 4 * r) code ends stk (nI C.length) hh)) ++ [(a 53, ia E 36 wo)]) := by
        intro u
        induction u with
        | zero =>
          intro y v hy hin hv
          have ey := t_nI (n := x + 1 + y) (by omega)
          refine g_iload4 dX7_worthOf_46 (g_aload0 dX7_worthOf_48 (g_get fl_X7_10 0 rfl rfl dX7_worthOf_49 (g_get fl_X7_110 1 rfl rfl dX7_worthOf_52 (g_icmp_ge (tgt := 89) dX7_worthOf_55 (by decide) (fun h55 => g_iinc3 ki_1 dX7_worthOf_89 rfl rfl (g_goto (tgt := 4) dX7_worthOf_92 (by decide) (?s4_2))) (fun h55 => ?s58_2)))))
          case s58_2 => omega
          case s4_2 =>
            rw [nI_1]
            refine ih (x + 1) _ _ (by omega) ?_
            rw [wsF, if_pos hin, hv, show y = D.1.length - 1 - x by omega]
            omega
        | succ u ihu =>
          intro y v hy hin hv
          have ey := t_nI (n := x + 1 + y) (by omega)
          have eix := ix_nI (x := x) (y := x + 1 + y) (by omega) (by omega)
          have hb1 := wsI_b D C e m x y
          have hb2 := wsI_b D C e m x (y + 1)
          have hwo := hdn x (x + 1 + y) (by omega) (by omega) (by omega)
          rw [wsI] at hb2
          refine g_iload4 dX7_worthOf_46 (g_aload0 dX7_worthOf_48 (g_get fl_X7_10 0 rfl rfl dX7_worthOf_49 (g_get fl_X7_110 1 rfl rfl dX7_worthOf_52 (g_icmp_ge (tgt := 89) dX7_worthOf_55 (by decide) (fun h55 => ?s89_3) (fun h55 => g_iload1 dX7_worthOf_58 (g_iload4 dX7_worthOf_59 (r_X7_bit hN mv_X7_178 dX7_worthOf_61 (Nat.le_of_ble_eq_true rfl) (Nat.le_of_ble_eq_true rfl) rfl (g_iand dX7_worthOf_64 (g_if_eq (tgt := 83) dX7_worthOf_65 (by decide) (fun h65 => g_iinc4 ki_1 dX7_worthOf_83 rfl rfl (g_goto (tgt := 46) dX7_worthOf_86 (by decide) (?s46_3))) (fun h65 => g_iload2 dX7_worthOf_68 (g_aload0 dX7_worthOf_69 (g_get fl_X7_75 0 rfl rfl dX7_worthOf_70 (g_iload3 dX7_worthOf_73 (g_bipush kb_6 dX7_worthOf_74 (g_imul dX7_worthOf_76 (g_iload4 dX7_worthOf_77 (g_iadd dX7_worthOf_79 (g_iaload 19 rfl dX7_worthOf_80 ?b80_3 (g_iadd dX7_worthOf_81 (g_istore2 dX7_worthOf_82 rfl rfl (g_iinc4 ki_1 dX7_worthOf_83 rfl rfl (g_goto (tgt := 46) dX7_worthOf_86 (by decide) (?s46_3')))))))))))))))))))))))
          case s89_3 => omega
          case s46_3 =>
            rw [nI_1]
            refine ihu (y + 1) _ (by omega) hin ?_
            rw [wsI, if_neg (fun q => q h65), hv]
            omega
          case b80_3 => exact ⟨by omega, by show _ < (36 : Int); omega⟩
          case s46_3' =>
            rw [if_pos h65] at hb2
            rw [nI_1, eix, Int.toNat_natCast]
            refine ihu (y + 1) _ (by omega) hin ?_
            rw [wsI, if_pos h65, t_add (by omega) (by omega), hv, hwo]
            omega
      refine g_iload3 dX7_worthOf_4 (g_aload0 dX7_worthOf_5 (g_get fl_X7_10 0 rfl rfl dX7_worthOf_6 (g_get fl_X7_110 1 rfl rfl dX7_worthOf_9 (g_icmp_ge (tgt := 95) dX7_worthOf_12 (by decide) (fun h12 => ?s95_4) (fun h12 => g_iload1 dX7_worthOf_15 (g_iload3 dX7_worthOf_16 (r_X7_bit hN mv_X7_178 dX7_worthOf_17 (Nat.le_of_ble_eq_true rfl) (Nat.le_of_ble_eq_true rfl) rfl (g_iand dX7_worthOf_20 (g_if_ne (tgt := 27) dX7_worthOf_21 (by decide) (fun h21 => g_iload2 dX7_worthOf_27 (g_iconst ki_3 dX7_worthOf_28 (g_aload0 dX7_worthOf_29 (g_get fl_X7_10 0 rfl rfl dX7_worthOf_30 (g_get fl_X7_119 1 rfl rfl dX7_worthOf_33 (g_iload3 dX7_worthOf_36 (g_iaload 3 rfl dX7_worthOf_37 ?b37_4 (g_imul dX7_worthOf_38 (g_isub dX7_worthOf_39 (g_istore2 dX7_worthOf_40 rfl rfl (g_iload3 dX7_worthOf_41 (g_iconst ki_1 dX7_worthOf_42 (g_iadd dX7_worthOf_43 (g_istore4 dX7_worthOf_44 rfl rfl (?s46_4))))))))))))))) (fun h21 => g_goto (tgt := 89) dX7_worthOf_24 (by decide) (g_iinc3 ki_1 dX7_worthOf_89 rfl rfl (g_goto (tgt := 4) dX7_worthOf_92 (by decide) (?s4_4)))))))))))))
      case s95_4 => omega
      case s4_4 =>
        rw [nI_1]
        refine ih (x + 1) _ _ (by omega) ?_
        rw [wsF, if_neg (fun q => q h21), hv]
        omega
      case b37_4 => exact ⟨by omega, by show _ < (6 : Int); omega⟩
      case s46_4 =>
        rw [nI_1, ex, Int.toNat_natCast, j2.at g]
        refine inner (D.1.length - 1 - x) 0 _ (by omega) h21 ?_
        rw [t_sub (by omega) (by omega), hv, em, wsI]
        omega
  refine g_iconst ki_0 dX7_worthOf_0 (g_istore2 dX7_worthOf_1 rfl rfl (g_iconst ki_0 dX7_worthOf_2 (g_istore3 dX7_worthOf_3 rfl rfl (?s4_5))))
  exact outer D.1.length 0 0 _ (by omega) rfl
end S62
