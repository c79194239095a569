/-! feed, text, count -/
def sFeed (T : List Nat) (b : Int32) : Int32 × List Nat :=
  if ¬ (0 ≤ b.toInt ∧ b.toInt ≤ 255) then (-2, T) else if 160 ≤ T.length then (-4, T) else (nI (T.length + 1), T ++ [b.toInt.toNat])
section S55
variable {E : GE} {d : Nat} {a : Nat → Nat} {im tc : Int32} {w w1 w2 w3 : va_W} {T : List Nat} {adK adV ta : Nat → Nat} {e0 e1 : Nat → Nat} {C0 C1 : List Int32} {D : Dg} {r : Nat} {L Lt : List Cr}
set_option maxRecDepth 20000 in
set_option maxHeartbeats 2000000 in
theorem c_feed (hN : g_N E) (hw : RdrI E a 42 T w) (b : Int32) : g_Ci E mX7_feed (d + 2) [.ref (a 0), .int b] ((a 0, dolO a im tc) :: w) (fun z w' => z = (sFeed T b).1 ∧ ∃ w1, RdrI E a 42 (sFeed T b).2 w1 ∧ w' = (a 0, dolO a im tc) :: w1) := by
  have hw' := hw
  obtain ⟨tp, nx, tk, at_, nu, rfl, htp⟩ := hw
  have hl := htp.1
  have e1 := t_nI (n := T.length) (by omega)
  refine g_enterI hN.1 (by decide) [some (.ref (a 0)), some (.int b)] rfl (Nat.le_of_ble_eq_true rfl) (fun A Q hQ => ?_)
  have tcm4 := tc_m4; have tcm2 := tc_m2; have tc0 := tc_0; have tc160 := tc_160; have tc255 := tc_255
  have z0 := g_biz (p := ((0 : Int32).toInt ≤ b.toInt ∧ b.toInt ≤ (255 : Int32).toInt))
  unfold sFeed at hQ
  refine g_iload1 dX7_feed_0 (g_iconst ki_0 dX7_feed_1 (g_sipush ks_255 dX7_feed_2 (r_X7_isWithin hN mv_X7_100 dX7_feed_5 (Nat.le_of_ble_eq_true rfl) (Nat.le_of_ble_eq_true rfl) rfl (g_if_ne (tgt := 14) dX7_feed_8 (by decide) (fun h8 => g_aload0 dX7_feed_14 (g_get fl_X7_43 0 rfl rfl dX7_feed_15 (g_get fl_X7_148 1 rfl rfl dX7_feed_18 (g_sipush ks_160 dX7_feed_21 (g_icmp_lt (tgt := 30) dX7_feed_24 (by decide) (fun h24 => g_aload0 dX7_feed_30 (g_get fl_X7_43 0 rfl rfl dX7_feed_31 (g_iload1 dX7_feed_34 (?c35)))) (fun h24 => g_bipush kb_m4 dX7_feed_27 (g_iret rfl dX7_feed_29 (Nat.le_of_ble_eq_true rfl) (Nat.le_of_ble_eq_true rfl) ?q29))))))) (fun h8 => g_bipush kb_m2 dX7_feed_11 (g_iret rfl dX7_feed_13 (Nat.le_of_ble_eq_true rfl) (Nat.le_of_ble_eq_true rfl) ?q13))))))
  case q13 => rw [if_pos (by omega)] at hQ; exact hQ _ _ ⟨rfl, _, hw', rfl⟩
  all_goals rw [if_neg (by omega)] at hQ
  case q29 => rw [if_pos (by omega)] at hQ; exact hQ _ _ ⟨rfl, _, hw', rfl⟩
  case c35 =>
    rw [if_neg (by omega)] at hQ
    have hc := c_append (d := d) (a := a) (k := 42) hN htp (by omega) (b := b.toInt.toNat) (by omega) nx tk at_ nu
    rw [← t_of (a := b) (by omega)] at hc
    refine g_V1v dX7_feed_35 mv_X7_92 1 rfl rfl rfl (Nat.le_of_ble_eq_true rfl) (Nat.le_of_ble_eq_true rfl) (hc.frame (X := [(a 0, dolO a im tc)]) (Y := [])) (fun w1 hq => ?_)
    obtain ⟨w3, ⟨tp', rfl, htp'⟩, rfl⟩ := hq
    refine g_aload0 dX7_feed_38 (g_get fl_X7_43 0 rfl rfl dX7_feed_39 (g_get fl_X7_148 1 rfl rfl dX7_feed_42 (g_iret rfl dX7_feed_45 (Nat.le_of_ble_eq_true rfl) (Nat.le_of_ble_eq_true rfl) ?q45_2)))
    exact hQ _ _ ⟨by rw [List.length_append]; rfl, _, ⟨_, _, _, _, _, rfl, htp'⟩, rfl⟩
theorem c_textFull (hN : g_N E) (ht : 6 ≤ tc.toInt) : g_Ci E mX7_text (d + 1) [.ref (a 0)] [(a 0, dolO a im tc)] (fun z w' => z = -4 ∧ w' = [(a 0, dolO a im tc)]) := by
  refine g_enterI hN.1 (by decide) [some (.ref (a 0)), none] rfl (Nat.le_of_ble_eq_true rfl) (fun A Q hQ => ?_)
  have tcm100 := tc_m100; have tcm4 := tc_m4; have tc1 := tc_1; have tc6 := tc_6
  refine g_aload0 dX7_text_0 (g_get fl_X7_53 0 rfl rfl dX7_text_1 (g_bipush kb_6 dX7_text_4 (g_icmp_lt (tgt := 12) dX7_text_6 (by decide) (fun h6 => ?s12) (fun h6 => g_bipush kb_m4 dX7_text_9 (g_iret rfl dX7_text_11 (Nat.le_of_ble_eq_true rfl) (Nat.le_of_ble_eq_true rfl) ?q11)))))
  case s12 => omega
  case q11 => exact hQ _ _ ⟨rfl, rfl⟩
set_option maxRecDepth 20000 in
set_option maxHeartbeats 2000000 in
theorem c_text (hE : g_E E adK adV ta) {n : Nat} (hn : n < 6) (h1 : RdrI E a 42 T w1) (h2 : Txt E a 44 C0 e0 w2) (h3 : Txt E a (54 + 4 * n) C1 e1 w3) : g_Ci E mX7_text (d + 61) [.ref (a 0)] ((a 0, dolO a im (nI n)) :: (a 48, raT E a) :: ((w1 ++ w2) ++ w3)) (fun z w' => ∃ w1' w2' w3', RdrI E a 42 [] w1' ∧ (∃ C e, Txt E a 44 C e w2') ∧ (rdOK (rdAll T e0) → z = nI n ∧ Txt E a (54 + 4 * n) (rdAll T e0).2.2.1 (rdAll T e0).2.2.2 w3' ∧ w' = (a 0, dolO a im (nI (n + 1))) :: (a 48, raT E a) :: ((w1' ++ w2') ++ w3')) ∧ (¬ rdOK (rdAll T e0) → z = -100 - nI (rdAll T e0).2.1.2.1 ∧ w3' = w3 ∧ w' = (a 0, dolO a im (nI n)) :: (a 48, raT E a) :: ((w1' ++ w2') ++ w3'))) := by
  have hN := g_E_N hE
  have k1 := h1
  have k2 := h2
  have k3 := h3
  obtain ⟨tp, nx, tk, at_, nu, rfl, htp⟩ := h1
  obtain ⟨-, code, ends, stk, hh, rfl, -⟩ := h2
  obtain ⟨-, code3, ends3, stk3, hh3, rfl, -⟩ := h3
  have en := t_nI (n := n) (by omega)
  refine g_enterI hN.1 (by decide) [some (.ref (a 0)), none] rfl (Nat.le_of_ble_eq_true rfl) (fun A Q hQ => ?_)
  have tcm100 := tc_m100; have tcm4 := tc_m4; have tc1 := tc_1; have tc6 := tc_6
  refine g_aload0 dX7_text_0 (g_get fl_X7_53 0 rfl rfl dX7_text_1 (g_bipush kb_6 dX7_text_4 (g_icmp_lt (tgt := 12) dX7_text_6 (by decide) (fun h6 => g_aload0 dX7_text_12 (g_get fl_X7_43 0 rfl rfl dX7_text_13 (g_aload0 dX7_text_16 (g_get fl_X7_49 0 rfl rfl dX7_text_17 (g_aload0 dX7_text_20 (g_get fl_X7_53 0 rfl rfl dX7_text_21 (g_aaload 3 1 rfl rfl dX7_text_24 ?b24 (?a24)))))))) (fun h6 => g_bipush kb_m4 dX7_text_9 (g_iret rfl dX7_text_11 (Nat.le_of_ble_eq_true rfl) (Nat.le_of_ble_eq_true rfl) ?q11)))))
  case q11 => omega
  case b24 => exact ⟨by omega, by show _ < (6 : Int); omega⟩
  case a24 =>
    rw [en, Int.toNat_natCast]
    dsimp only [va_rf]
    refine g_V1i dX7_text_25 mv_X7_96 2 rfl rfl rfl (Nat.le_of_ble_eq_true rfl) (Nat.le_of_ble_eq_true rfl) ((c_readInto (d := d) hE k1 k2 k3).frame (X := [(a 0, dolO a im (nI n)), (a 48, raT E a)]) (Y := [])) (fun r1 w1 hq => ?_)
    obtain ⟨w4, ⟨w1', w2', w3', rfl, m1, m2, m3, m4⟩, rfl⟩ := hq
    by_cases hok : rdOK (rdAll T e0)
    · obtain ⟨rfl, m5⟩ := m3 hok
      have m1' := m1
      have m2' := m2
      have m5' := m5
      obtain ⟨tp4, nx4, tk4, at4, nu4, rfl, htp4⟩ := m1
      obtain ⟨C4, e4, -, code4, ends4, stk4, hh4, rfl, -⟩ := m2
      obtain ⟨-, code5, ends5, stk5, hh5, rfl, -⟩ := m5
      refine g_istore1 dX7_text_28 rfl rfl (g_iload1 dX7_text_29 (g_if_lt (tgt := 38) dX7_text_30 (by decide) (fun h30 => g_aload0 dX7_text_38 (g_dup dX7_text_39 rfl (g_get fl_X7_53 0 rfl rfl dX7_text_40 (g_iconst ki_1 dX7_text_43 (g_iadd dX7_text_44 (g_put fl_X7_53 fp_6_8 0 rfl rfl rfl (Nat.le_of_ble_eq_true rfl) dX7_text_45 (g_aload0 dX7_text_48 (g_get fl_X7_53 0 rfl rfl dX7_text_49 (g_iconst ki_1 dX7_text_52 (g_isub dX7_text_53 (g_iret rfl dX7_text_54 (Nat.le_of_ble_eq_true rfl) (Nat.le_of_ble_eq_true rfl) ?q54_2))))))))))) (fun h30 => ?s33_2)))
      case s33_2 => exact absurd (show (-1 : Int32).toInt < 0 by decide) (by omega)
      case q54_2 =>
        refine hQ _ _ ⟨_, _, _, m1', m2', fun _ => ⟨?_, m5', ?_⟩, fun q => absurd hok q⟩
        · rw [nI_1, show (1 : Int32) = nI 1 from rfl, pk_sub (by omega)]; rfl
        · rw [nI_1, List.append_nil]; rfl
    · obtain ⟨rfl, m5, rfl⟩ := m4 hok
      have m1' := m1
      have m2' := m2
      obtain ⟨tp4, nx4, tk4, at4, nu4, rfl, htp4⟩ := m1
      obtain ⟨C4, e4, -, code4, ends4, stk4, hh4, rfl, -⟩ := m2
      have ez := t_nI (n := (rdAll T e0).2.1.2.1) (by omega)
      refine g_istore1 dX7_text_28 rfl rfl (g_iload1 dX7_text_29 (g_if_lt (tgt := 38) dX7_text_30 (by decide) (fun h30 => ?s38_3) (fun h30 => g_bipush kb_m100 dX7_text_33 (g_iload1 dX7_text_35 (g_isub dX7_text_36 (g_iret rfl dX7_text_37 (Nat.le_of_ble_eq_true rfl) (Nat.le_of_ble_eq_true rfl) ?q37_3))))))
      case s38_3 => omega
      case q37_3 =>
        exact hQ _ _ ⟨_, _, _, m1', m2', fun q => absurd q hok, fun _ => ⟨rfl, rfl, by rw [List.append_nil]; rfl⟩⟩
end S55
