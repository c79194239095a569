/-! seen: the helpers -/
def wmF (P : List Nat) (x : Nat) : Nat → Bool
  | 0 => false
  | t + 1 => if absN (P.getD t 0) x < 2 then P.getD t 0 == x else wmF P x t
section S64
variable {E : GE} {d : Nat} {a : Nat → Nat} {im tc : Int32} {to tp : Nat → Int32}
set_option maxRecDepth 20000 in
set_option maxHeartbeats 1000000 in
theorem c_changeTrial (hN : g_N E) {i : Nat} (hi : i + 1 < 6) : g_Cv E mX7_changeTrial (d + 1) [.ref (a 0), .int (nI i)] [(a 0, dolO a im tc), (a 51, ia E 6 to)] (fun w' => w' = [(a 0, dolO a im tc), (a 51, ia E 6 (upd (upd to i (to (i + 1))) (i + 1) (to i)))]) := by
  have ei := t_nI (n := i) (by omega)
  have ei1 := t_nI (n := i + 1) (by omega)
  refine g_enterV hN.1 (by decide) [some (.ref (a 0)), some (.int (nI i)), none] rfl (Nat.le_of_ble_eq_true rfl) (fun A Q hQ => ?_)
  have tc1 := tc_1
  refine g_aload0 dX7_changeTrial_0 (g_get fl_X7_69 0 rfl rfl dX7_changeTrial_1 (g_iload1 dX7_changeTrial_4 (g_iaload 1 rfl dX7_changeTrial_5 ?b5 (g_istore2 dX7_changeTrial_6 rfl rfl (g_aload0 dX7_changeTrial_7 (g_get fl_X7_69 0 rfl rfl dX7_changeTrial_8 (g_iload1 dX7_changeTrial_11 (g_aload0 dX7_changeTrial_12 (g_get fl_X7_69 0 rfl rfl dX7_changeTrial_13 (g_iload1 dX7_changeTrial_16 (g_iconst ki_1 dX7_changeTrial_17 (g_iadd dX7_changeTrial_18 (g_iaload 1 rfl dX7_changeTrial_19 ?b19 (g_iastore 1 rfl dX7_changeTrial_20 ?b20 (g_aload0 dX7_changeTrial_21 (g_get fl_X7_69 0 rfl rfl dX7_changeTrial_22 (g_iload1 dX7_changeTrial_25 (g_iconst ki_1 dX7_changeTrial_26 (g_iadd dX7_changeTrial_27 (g_iload2 dX7_changeTrial_28 (g_iastore 1 rfl dX7_changeTrial_29 ?b29 (g_vret rfl dX7_changeTrial_30 (Nat.le_of_ble_eq_true rfl) (Nat.le_of_ble_eq_true rfl) ?q30))))))))))))))))))))))
  case q30 =>
    refine hQ _ ?_
    rw [nI_1, ei, ei1, Int.toNat_natCast, Int.toNat_natCast]
    rfl
  all_goals try rw [nI_1]
  all_goals exact ⟨by omega, by show _ < (6 : Int); omega⟩
end S64
