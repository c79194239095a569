/-! take -/
def dnT (D : Dg) (C : List Int32) (e : Nat → Nat) (x y : Nat) (wo : Nat → Int32) : Prop := ∀ x' y', x' < y' → y' < D.1.length → (x' < x ∨ x' = x ∧ y' < y) → (wo (6 * x' + y')).toInt = rhI D C e 1 x' y'
def Awt (E : GE) (a : Nat → Nat) (D : Dg) (r : Nat) (L : List Cr) (im tc : Int32) (C : List Int32) (e : Nat → Nat) (wo : Nat → Int32) (w : va_W) : Prop := ∃ w1, Arl E a D r L im tc C e w1 ∧ w = w1 ++ [(a 53, ia E 36 wo)]
theorem ix_nI {x y : Nat} (hx : x < 6) (hy : y < 6) : (nI x * 6 + nI y).toInt = ((6 * x + y : Nat) : Int) := by
  have e1 := t_nI (n := x) (by omega)
  have e2 := t_nI (n := y) (by omega)
  have e6 : (6 : Int32).toInt = 6 := by decide
  have e3 : (nI x * 6).toInt = (nI x).toInt * (6 : Int32).toInt := t_mul (by rw [e1, e6]; omega) (by rw [e1, e6]; omega)
  rw [t_add (by rw [e3, e1, e6, e2]; omega) (by rw [e3, e1, e6, e2]; omega), e3, e1, e6, e2]
  omega
section S61
variable {E : GE} {d : Nat} {a : Nat → Nat} {im tc : Int32} {w : va_W} {adK adV ta : Nat → Nat} {e : Nat → Nat} {C : List Int32} {D : Dg} {r : Nat} {L : List Cr} {wo : Nat → Int32}
set_option maxRecDepth 20000 in
set_option maxHeartbeats 4000000 in
theorem c_findWorths (hE : g_E E adK adV ta) (hw : Awt E a D r L im tc C e wo w) : g_Cv E mX7_findWorths (d + 7) [.ref (a 0)] w (fun w' => ∃ wo', dnT D C e D.1.length 0 wo' ∧ Awt E a D r L im tc C e wo' w') := by
  have hN := g_E_N hE
  obtain ⟨w1, hA, rfl⟩ := hw
  have hA0 := hA
  obtain ⟨kd, pc, nb, hs, od, pl, ov, on, ot, be, nm, code, ends, stk, hh, rfl, hD, j5, hpk⟩ := hA.lit
  have hn := hD.1
  have eD := t_nI (n := D.1.length) (by omega)
  refine g_enterV hN.1 (by decide) [some (.ref (a 0)), none, none] rfl (Nat.le_of_ble_eq_true rfl) (fun A Q hQ => ?_)
  have tc0 := tc_0; have tc1 := tc_1; have tc6 := tc_6
  have outer : ∀ t x w1 wo l2, x + t = D.1.length → Arl E a D r L im tc C e w1 → dnT D C e x 0 wo → G E mX7_findWorths (d + 7) 0 0 A Q 0 0 2 [some (.ref (a 0)), some (.int (nI x)), l2] [] (w1 ++ [(a 53, ia E 36 wo)]) := by
    clear hA hpk
    intro t
    induction t with
    | zero =>
      intro x w1 wo l2 hx hA hdn
      have hA' := hA
      obtain ⟨kd, pc, nb, hs, od, pl, ov, on, ot, be, nm, code, ends, stk, hh, rfl, hD, j5, hpk⟩ := hA.lit
      have ex := t_nI (n := x) (by omega)
      have he : x = D.1.length := by omega
      refine g_iload1 dX7_findWorths_2 (g_aload0 dX7_findWorths_3 (g_get fl_X7_10 0 rfl rfl dX7_findWorths_4 (g_get fl_X7_110 1 rfl rfl dX7_findWorths_7 (g_icmp_ge (tgt := 58) dX7_findWorths_10 (by decide) (fun h10 => g_vret rfl dX7_findWorths_58 (Nat.le_of_ble_eq_true rfl) (Nat.le_of_ble_eq_true rfl) ?q58) (fun h10 => ?s13)))))
      case s13 => omega
      case q58 => exact hQ _ ⟨wo, by rw [← he]; exact hdn, _, hA', rfl⟩
    | succ t ih =>
      intro x w1 wo l2 hx hA hdn
      have ex := t_nI (n := x) (by omega)
      have inner : ∀ v y w1 wo, y + v = D.1.length → x < y → Arl E a D r L im tc C e w1 → dnT D C e x y wo → G E mX7_findWorths (d + 7) 0 0 A Q 0 0 17 [some (.ref (a 0)), some (.int (nI x)), some (.int (nI y))] [] (w1 ++ [(a 53, ia E 36 wo)]) := by
        clear hA hdn
        intro v
        induction v with
        | zero =>
          intro y w1 wo hy hxy hA hdn
          have hA' := hA
          obtain ⟨kd, pc, nb, hs, od, pl, ov, on, ot, be, nm, code, ends, stk, hh, rfl, hD, j5, hpk⟩ := hA.lit
          have ey := t_nI (n := y) (by omega)
          refine g_iload2 dX7_findWorths_17 (g_aload0 dX7_findWorths_18 (g_get fl_X7_10 0 rfl rfl dX7_findWorths_19 (g_get fl_X7_110 1 rfl rfl dX7_findWorths_22 (g_icmp_ge (tgt := 52) dX7_findWorths_25 (by decide) (fun h25 => g_iinc1 ki_1 dX7_findWorths_52 rfl rfl (g_goto (tgt := 2) dX7_findWorths_55 (by decide) (?s2_2))) (fun h25 => ?s28_2)))))
          case s28_2 => omega
          case s2_2 =>
            rw [nI_1]
            exact ih (x + 1) _ _ _ (by omega) hA' (fun x' y' k1 k2 k3 => hdn x' y' k1 k2 (by omega))
        | succ v ihv =>
          intro y w1 wo hy hxy hA hdn
          have hA' := hA
          obtain ⟨kd, pc, nb, hs, od, pl, ov, on, ot, be, nm, code, ends, stk, hh, rfl, hD, j5, hpk⟩ := hA.lit
          have ey := t_nI (n := y) (by omega)
          have eix := ix_nI (x := x) (y := y) (by omega) (by omega)
          refine g_iload2 dX7_findWorths_17 (g_aload0 dX7_findWorths_18 (g_get fl_X7_10 0 rfl rfl dX7_findWorths_19 (g_get fl_X7_110 1 rfl rfl dX7_findWorths_22 (g_icmp_ge (tgt := 52) dX7_findWorths_25 (by decide) (fun h25 => ?s52_3) (fun h25 => g_aload0 dX7_findWorths_28 (g_get fl_X7_75 0 rfl rfl dX7_findWorths_29 (g_iload1 dX7_findWorths_32 (g_bipush kb_6 dX7_findWorths_33 (g_imul dX7_findWorths_35 (g_iload2 dX7_findWorths_36 (g_iadd dX7_findWorths_37 (g_aload0 dX7_findWorths_38 (g_iconst ki_1 dX7_findWorths_39 (g_iload1 dX7_findWorths_40 (g_iload2 dX7_findWorths_41 (?c42_3))))))))))))))))
          case s52_3 => omega
          case c42_3 =>
            refine g_V3i dX7_findWorths_42 mv_X7_144 0 rfl rfl rfl (Nat.le_of_ble_eq_true rfl) (Nat.le_of_ble_eq_true rfl) ((c_ruledInHand (d := d) hE hA' (part := 1) (x := x) (y := y) (by omega) (by omega) (by omega)).frame (X := []) (Y := [(a 53, ia E 36 wo)])) (fun r1 w1 hq => ?_)
            obtain ⟨w3, ⟨hz, hA3⟩, rfl⟩ := hq
            have hA3' := hA3
            obtain ⟨kd3, pc3, nb3, hs3, od3, pl3, ov3, on3, ot3, be3, nm3, code3, ends3, stk3, hh3, rfl, hD3, -, -⟩ := hA3.lit
            refine g_iastore 19 rfl dX7_findWorths_45 ?b45_4 (g_iinc2 ki_1 dX7_findWorths_46 rfl rfl (g_goto (tgt := 17) dX7_findWorths_49 (by decide) (?s17_4)))
            case b45_4 => exact ⟨by omega, by show _ < (36 : Int); omega⟩
            case s17_4 =>
              rw [nI_1, eix, Int.toNat_natCast]
              refine ihv (y + 1) _ _ (by omega) (by omega) hA3' (fun x' y' k1 k2 k3 => ?_)
              unfold upd
              by_cases q : 6 * x' + y' = 6 * x + y
              · rw [if_pos q, show x' = x by omega, show y' = y by omega]; exact hz
              · rw [if_neg q]; exact hdn x' y' k1 k2 (by omega)
      have hA' := hA
      obtain ⟨kd, pc, nb, hs, od, pl, ov, on, ot, be, nm, code, ends, stk, hh, rfl, hD, j5, hpk⟩ := hA.lit
      refine g_iload1 dX7_findWorths_2 (g_aload0 dX7_findWorths_3 (g_get fl_X7_10 0 rfl rfl dX7_findWorths_4 (g_get fl_X7_110 1 rfl rfl dX7_findWorths_7 (g_icmp_ge (tgt := 58) dX7_findWorths_10 (by decide) (fun h10 => ?s58_5) (fun h10 => g_iload1 dX7_findWorths_13 (g_iconst ki_1 dX7_findWorths_14 (g_iadd dX7_findWorths_15 (g_istore2 dX7_findWorths_16 rfl rfl (?s17_5)))))))))
      case s58_5 => omega
      case s17_5 =>
        rw [nI_1]
        exact inner (D.1.length - (x + 1)) (x + 1) _ _ (by omega) (by omega) hA' (fun x' y' k1 k2 k3 => hdn x' y' k1 k2 (by omega))
  refine g_iconst ki_0 dX7_findWorths_0 (g_istore1 dX7_findWorths_1 rfl rfl (?s2_6))
  exact outer D.1.length 0 _ _ _ (by omega) hA0 (fun x' y' k1 k2 k3 => by omega)
end S61
