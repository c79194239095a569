/-- what seen answers -/
def sSeen (D : Dg) (s : Int32 × List Int32) (x k w : Int32) : Int32 :=
  if ¬ (sRef D s x).toInt = 0 then sRef D s x
  else if ¬ ((0 ≤ k.toInt ∧ k.toInt ≤ 4) ∧ (0 ≤ w.toInt ∧ w.toInt ≤ 1)) then -2
  else if w.toInt = 0 then nI (mwF D.1.length (wN s.2) k.toInt.toNat D.2.2.2.2 []).1
  else nI (mwF D.1.length (wN s.2) k.toInt.toNat D.2.2.2.2 []).2
section S99b
variable {E : GE} {d : Nat} {b : Nat → Nat} {v : Nat → Int32} {t : Int64} {f : Nat → Nat → Int32} {D : Dg} {i : Nat} {s : Int32 × List Int32}
set_option maxRecDepth 20000 in
set_option maxHeartbeats 2000000 in
theorem c_X8_seen (hN : g_N E) (hD : dgOK D) (hM : MD v f D) (hS : MSh f i s) (x k w : Int32) (hx : shN x i) : g_Ci E mX8_seen (d + 8) [.ref (b 0), .int x, .int k, .int w] (mW E b v t f) (fun z w' => z = sSeen D s x k w ∧ ∃ v' f', w' = mW E b v' t f' ∧ agV [34, 40, 41] v v' ∧ agF [11, 31, 32, 33, 38, 39] f f' ∧ MD v' f' D) := by
  obtain ⟨hn, l1, l2, l3, l4, b1, b2, b3, b4, b5, hnd⟩ := id hD
  refine g_enterI hN.1 (by decide) [some (.ref (b 0)), some (.int x), some (.int k), some (.int w), none] rfl (Nat.le_of_ble_eq_true rfl) (fun A Q hQ => ?_)
  have tcm2 := tc_m2; have tc0 := tc_0
  unfold sSeen at hQ
  refine g_aload0 dX8_seen_0 (g_iload1 dX8_seen_1 (?c2))
  refine g_V1i dX8_seen_2 mv_X8_303 0 rfl rfl rfl (Nat.le_of_ble_eq_true rfl) (Nat.le_of_ble_eq_true rfl) (c_X8_orderBad (d := d + 4) hN hD hM hS x hx) (fun z1_ w1 hq => ?_)
  obtain ⟨rfl, rfl⟩ := hq
  by_cases h0 : (sRef D s x).toInt = 0
  · rw [if_neg (fun q => q h0)] at hQ
    obtain ⟨r1, r2, r3, r4, -⟩ := sRef_0 h0
    obtain ⟨hi4, hs40, hso, hm1, hm2⟩ := hS
    obtain ⟨h52, h53, h54, h55⟩ := hm2 r2
    have hxi := hx r1
    have hxx : x = nI i := by rw [← hxi]; exact t_of (by omega)
    subst hxx
    refine g_istore4 dX8_seen_5 rfl rfl (g_iload4 dX8_seen_7 (g_if_eq (tgt := 15) dX8_seen_9 (by decide) (fun h9 => g_iload2 dX8_seen_15 (g_i2l dX8_seen_16 (g_lconst kl_0 dX8_seen_17 (g_ldc2_w kj_X8_325 dX8_seen_18 (r_X8_in hN mv_X8_106 dX8_seen_21 (Nat.le_of_ble_eq_true rfl) (Nat.le_of_ble_eq_true rfl) rfl (g_if_eq (tgt := 37) dX8_seen_24 (by decide) (fun h24 => g_bipush kb_m2 dX8_seen_37 (g_iret rfl dX8_seen_39 (Nat.le_of_ble_eq_true rfl) (Nat.le_of_ble_eq_true rfl) ?q39_2)) (fun h24 => g_iload3 dX8_seen_27 (g_i2l dX8_seen_28 (g_lconst kl_0 dX8_seen_29 (g_lconst kl_1 dX8_seen_30 (r_X8_in hN mv_X8_106 dX8_seen_31 (Nat.le_of_ble_eq_true rfl) (Nat.le_of_ble_eq_true rfl) rfl (g_if_ne (tgt := 40) dX8_seen_34 (by decide) (fun h34 => ?s40_2) (fun h34 => g_bipush kb_m2 dX8_seen_37 (g_iret rfl dX8_seen_39 (Nat.le_of_ble_eq_true rfl) (Nat.le_of_ble_eq_true rfl) ?q39_2')))))))))))))) (fun h9 => g_iload4 dX8_seen_12 (g_iret rfl dX8_seen_14 (Nat.le_of_ble_eq_true rfl) (Nat.le_of_ble_eq_true rfl) ?q14_2))))
    all_goals try simp only [g_biz, Int32.toInt_toInt64, tl_m4611686018427387904, tl_m1, tl_0, tl_1, tl_2, tl_3, tl_4, tl_5, tl_9, tl_10, tl_20, tl_40, tl_43, tl_48, tl_57, tl_60, tl_97, tl_99, tl_122, tl_255] at *
    case q14_2 => omega
    case q39_2 => rw [if_pos (by omega)] at hQ; exact hQ _ _ ⟨rfl, v, f, rfl, agV.rf, agF.rf, hM⟩
    case q39_2' => rw [if_pos (by omega)] at hQ; exact hQ _ _ ⟨rfl, v, f, rfl, agV.rf, agF.rf, hM⟩
    case s40_2 =>
      rw [if_neg (by omega)] at hQ
      have hkk : k = nI k.toInt.toNat := t_of (by omega)
      have hwl : (wN s.2).length = D.1.length := by unfold wN; rw [List.length_map]; exact r3
      have hit : ∀ p x, (wN s.2)[p]? = some x → f 55 (40 * i + p) = nI x := by
        intro p x hp
        have hp2 := (List.getElem?_eq_some_iff.mp hp).1
        rw [wN_get (by omega)] at hp
        have h1 := Option.some.inj hp
        have h2 := r4 p (by omega)
        rw [h55 p _ (getD_ai (by omega)), ← h1]
        exact t_of h2.1
      have hgb : ∀ y ∈ wN s.2, y < 1000 := by
        intro y hy
        obtain ⟨p, hp⟩ := List.getElem?_of_mem hy
        have hp2 := (List.getElem?_eq_some_iff.mp hp).1
        rw [wN_get (by omega)] at hp
        have h1 := Option.some.inj hp
        have h2 := r4 p (by omega)
        omega
      have hc := c_X8_rowsOf (b := b) (t := t) (d := d + 4 - k.toInt.toNat) (k := k.toInt.toNat) hN hn (by omega) hi4 hwl hgb k.toInt.toNat D.2.2.2.2 [] (upd (upd v 40 0) 41 0) f (by simp) l4 (fun y hy => by have := b5 y hy; omega) (fun c hc => by cases hc) (by rw [upd_o (by decide), upd_o (by decide)]; exact hM.1) hit hM.2.2.2.2.2 (fun j x hj => by simp at hj) (fun j x hj => by simp at hj)
      rw [show d + 4 - k.toInt.toNat + k.toInt.toNat + 3 = d + 7 by omega, ← hkk] at hc
      refine g_aload0 dX8_seen_40 (g_iconst ki_0 dX8_seen_41 (g_mput fl_X8_316 fp_7_40 ms_40 rfl rfl rfl dX8_seen_42 (g_aload0 dX8_seen_45 (g_iconst ki_0 dX8_seen_46 (g_mput fl_X8_319 fp_7_41 ms_41 rfl rfl rfl dX8_seen_47 (g_aload0 dX8_seen_50 (g_iload1 dX8_seen_51 (g_iload2 dX8_seen_52 (g_iconst ki_0 dX8_seen_53 (?c54_3))))))))))
      refine g_V3v dX8_seen_54 mv_X8_322 0 rfl rfl rfl (Nat.le_of_ble_eq_true rfl) (Nat.le_of_ble_eq_true rfl) (hc) (fun w1 hq => ?_)
      obtain ⟨v3, f3, rfl, g1, g2, g3, g4, g5, g6, g7⟩ := hq
      have hag : agV [34, 40, 41] v v3 := ((agV.rf.up 40 0 rfl).up 41 0 rfl).tr g1
      have hM3 : MD v3 f3 D := hM.ag2 hag g2 rfl rfl g3
      rw [upd_o (by decide), upd_s, Int32.zero_add] at g6
      rw [upd_s, Int32.zero_add] at g7
      refine g_iload3 dX8_seen_57 (g_if_ne (tgt := 68) dX8_seen_58 (by decide) (fun h58 => g_aload0 dX8_seen_68 (g_mget fl_X8_319 mg_41 dX8_seen_69 (g_iret rfl dX8_seen_72 (Nat.le_of_ble_eq_true rfl) (Nat.le_of_ble_eq_true rfl) ?q72_4))) (fun h58 => g_aload0 dX8_seen_61 (g_mget fl_X8_316 mg_40 dX8_seen_62 (g_goto (tgt := 72) dX8_seen_65 (by decide) (g_iret rfl dX8_seen_72 (Nat.le_of_ble_eq_true rfl) (Nat.le_of_ble_eq_true rfl) ?q72_4')))))
      case q72_4 =>
        rw [if_neg (by omega)] at hQ
        exact hQ _ _ ⟨g7, v3, f3, rfl, hag, g2, hM3⟩
      case q72_4' =>
        rw [if_pos (by omega)] at hQ
        exact hQ _ _ ⟨g6, v3, f3, rfl, hag, g2, hM3⟩
  · rw [if_pos h0] at hQ
    refine g_istore4 dX8_seen_5 rfl rfl (g_iload4 dX8_seen_7 (g_if_eq (tgt := 15) dX8_seen_9 (by decide) (fun h9 => ?s15_5) (fun h9 => g_iload4 dX8_seen_12 (g_iret rfl dX8_seen_14 (Nat.le_of_ble_eq_true rfl) (Nat.le_of_ble_eq_true rfl) ?q14_5))))
    case s15_5 => omega
    case q14_5 => exact hQ _ _ ⟨rfl, v, f, rfl, agV.rf, agF.rf, hM⟩
end S99b
