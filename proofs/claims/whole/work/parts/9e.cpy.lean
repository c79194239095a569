/-! one sheet to another -/
section S9e0
variable {E : GE} {M : GM} {d mc ms : Nat} {A : Nat → Prop} {Q : Option Value → va_W → Prop} {k n pc : Nat} {ls : List (Option Value)} {ws : va_W}
set_option maxHeartbeats 1000000 in
theorem g_acopy (hcls : M.1.cls = RX7) {a a0 n0 n1 : Nat} {f g : Nat → Int32} {sp dp x : Int32} (q0 q1 : Nat) (ha0 : ws[q0]? = some (a0, ia E n0 f)) (ha1 : ws[q1]? = some (a, ia E n1 g)) (h1 : 0 ≤ sp.toInt) (h2 : 0 ≤ dp.toInt) (h3 : 0 ≤ x.toInt) (h4 : sp.toInt + x.toInt ≤ n0) (h5 : dp.toInt + x.toInt ≤ n1) (hd : decode M.2.1 pc = .ok (.invokestatic 288, 3)) (kk : G E M (d + 1) mc ms A Q k n (pc + 3) ls [] (ws.set q1 (a, ia E n1 (va_cpy f g sp.toInt.toNat dp.toInt.toNat x.toInt.toNat)))) : G E M (d + 1) mc ms A Q k n pc ls [.int x, .int dp, .ref a, .int sp, .ref a0] ws := by
  intro p e s m args below meth c H locs ls0 hc hP hD hS hl
  have hts : ∀ {i : Nat} {w : Cond}, lw_tbl[i]? = some w → goodWord w = true → w.before args s = true := fun h1 h2 => hc.2.2.2.2.2.2.1 _ (List.mem_cons_of_mem _ (gw_at h1 h2))
  have hK := hc.2.2.2.2.2.2.2.1
  have hlt : ∀ {z : Int32}, 0 ≤ z.toInt → ¬ z < 0 := fun h q => by
    have := Int32.lt_iff_toInt_lt.mp q
    have e : (0 : Int32).toInt = 0 := rfl
    omega
  refine va_copyi (own := RX7) (index := 288) hc.1 hc.2.1 (by rw [hl.1]; exact hc.2.2.2.2.1) (by rw [← hcls]; exact hc.2.2.2.2.2.1) (hts (i := 919) (by decide +kernel) rfl) (hts (i := 921) (by decide +kernel) rfl) (hts (i := 920) (by decide +kernel) rfl) (hts (i := 93) (by decide +kernel) rfl) hK hP hD hS q0 q1 0 0 ha0 ha1 rfl rfl rfl (hlt h1) (hlt h2) (hlt h3) ?_ ?_ (fun _ _ => rfl) ?_ ?_ hd (fun H1 locs1 hP1 hD1 hS1 => kk p e s m args below meth c H1 locs1 ls0 hc hP1 hD1 hS1 hl)
  · show sp.toInt.toNat + x.toInt.toNat ≤ n0
    omega
  · show dp.toInt.toNat + x.toInt.toNat ≤ n1
    omega
  · show 1 ≤ d + 1
    omega
  · show 0 + (nativeFrameWords "java/lang/System" "arraycopy" 5 + 11) ≤ 48 * (d + 1)
    have e : nativeFrameWords "java/lang/System" "arraycopy" 5 = 7 := by decide
    rw [e]
    omega
end S9e0
/-- the object, the sheets' row, two sheets -/
def Acp (E : GE) (a : Nat → Nat) (im tc : Int32) (i1 i2 : Nat) (s1 s2 : Int32 × List Int32) (w : va_W) : Prop := i1 < 4 ∧ i2 < 4 ∧ ∃ ws1 ws2, Sht E a (78 + 2 * i1) s1.1 s1.2 ws1 ∧ Sht E a (78 + 2 * i2) s2.1 s2.2 ws2 ∧ w = (a 0, dolO a im tc) :: (a 50, raS E a) :: (ws1 ++ ws2)
theorem va_cpy_at (f g : Nat → Int32) (i j n k : Nat) : va_cpy f g i j n k = if j ≤ k ∧ k < j + n then f (i + (k - j)) else g k := rfl
theorem cpV_lay {V1 V2 : List Int32} {f g : Nat → Int32} {i j n : Nat} (h1 : ∀ (q : Nat) (x : Int32), V1[q]? = some x → f q = x) (h2 : ∀ (q : Nat) (x : Int32), V2[q]? = some x → g q = x) (hi : i + n ≤ V1.length) : ∀ (q : Nat) (x : Int32), (cpV V1 V2 i j n)[q]? = some x → va_cpy f g i j n q = x := by
  intro q x hq
  obtain ⟨k1, k2⟩ := cpV_get hq
  rw [va_cpy_at, k2]
  by_cases h : j ≤ q ∧ q < j + n
  · rw [if_pos h, if_pos h]; exact h1 _ _ (getD_ai (by omega))
  · rw [if_neg h, if_neg h]; exact h2 _ _ (getD_ai k1)
section S9e
variable {E : GE} {d : Nat} {a : Nat → Nat} {im tc : Int32} {w : va_W} {i i1 i2 : Nat} {s s1 s2 : Int32 × List Int32}
set_option maxRecDepth 20000 in
set_option maxHeartbeats 1000000 in
theorem c_copy1 (hN : g_N E) (hw : Ash E a im tc i s w) (x f y g n : Int32) (hx : shN x i) (hy : shN y i) : g_Ci E mX7_copy (d + 4) [.ref (a 0), .int x, .int f, .int y, .int g, .int n] w (fun z w' => z = (sCopy x f y g n s s).1 ∧ Ash E a im tc i (s.1, (sCopy x f y g n s s).2) w') := by
  have hw' := hw
  obtain ⟨hi, ws, hs, rfl⟩ := hw
  have hs' := hs
  obtain ⟨hV, it, rfl, hit⟩ := hs
  have eV := t_nI (n := s.2.length) (by omega)
  refine g_enterI hN.1 (by decide) [some (.ref (a 0)), some (.int x), some (.int f), some (.int y), some (.int g), some (.int n), none, none] rfl (Nat.le_of_ble_eq_true rfl) (fun A Q hQ => ?_)
  have tcm13 := tc_m13; have tcm12 := tc_m12; have tcm11 := tc_m11; have tcm2 := tc_m2; have tcm1 := tc_m1
  have z0 := g_biz (p := (0 ≤ x.toInt ∧ x.toInt ≤ 3))
  have z1 := g_biz (p := (0 ≤ y.toInt ∧ y.toInt ≤ 3))
  unfold sCopy at hQ
  refine g_iload1 dX7_copy_0 (r_X7_isSheet hN mv_X7_269 dX7_copy_1 (Nat.le_of_ble_eq_true rfl) (Nat.le_of_ble_eq_true rfl) rfl (g_if_eq (tgt := 14) dX7_copy_4 (by decide) (fun h4 => g_bipush kb_m2 dX7_copy_14 (g_iret rfl dX7_copy_16 (Nat.le_of_ble_eq_true rfl) (Nat.le_of_ble_eq_true rfl) ?q16)) (fun h4 => g_iload3 dX7_copy_7 (r_X7_isSheet hN mv_X7_269 dX7_copy_8 (Nat.le_of_ble_eq_true rfl) (Nat.le_of_ble_eq_true rfl) rfl (g_if_ne (tgt := 17) dX7_copy_11 (by decide) (fun h11 => g_aload0 dX7_copy_17 (g_get fl_X7_65 0 rfl rfl dX7_copy_18 (g_iload1 dX7_copy_21 (g_aaload 2 1 rfl rfl dX7_copy_22 ?b22 (?a22))))) (fun h11 => g_bipush kb_m2 dX7_copy_14 (g_iret rfl dX7_copy_16 (Nat.le_of_ble_eq_true rfl) (Nat.le_of_ble_eq_true rfl) ?q16')))))))
  case q16 => rw [if_pos (by omega)] at hQ; exact hQ _ _ ⟨rfl, hw'⟩
  case q16' => rw [if_pos (by omega)] at hQ; exact hQ _ _ ⟨rfl, hw'⟩
  all_goals rw [if_neg (by omega)] at hQ
  case b22 => exact ⟨by omega, by show _ < (4 : Int); omega⟩
  case a22 =>
    rw [hx (by omega)]
    dsimp only [va_rf]
    refine g_astore6 dX7_copy_23 rfl rfl (g_aload0 dX7_copy_25 (g_get fl_X7_65 0 rfl rfl dX7_copy_26 (g_iload3 dX7_copy_29 (g_aaload 2 1 rfl rfl dX7_copy_30 ?b30_2 (?a30_2)))))
    case b30_2 => exact ⟨by omega, by show _ < (4 : Int); omega⟩
    case a30_2 =>
      rw [hy (by omega)]
      dsimp only [va_rf]
      refine g_astore7 dX7_copy_31 rfl rfl (g_aload6 dX7_copy_33 (g_get fl_X7_275 2 rfl rfl dX7_copy_35 (g_iconst ki_m1 dX7_copy_38 (g_icmp_eq (tgt := 51) dX7_copy_39 (by decide) (fun h39 => g_bipush kb_m11 dX7_copy_51 (g_iret rfl dX7_copy_53 (Nat.le_of_ble_eq_true rfl) (Nat.le_of_ble_eq_true rfl) ?q53_3)) (fun h39 => g_aload7 dX7_copy_42 (g_get fl_X7_275 2 rfl rfl dX7_copy_44 (g_iconst ki_m1 dX7_copy_47 (g_icmp_ne (tgt := 54) dX7_copy_48 (by decide) (fun h48 => g_aload6 dX7_copy_54 (g_get fl_X7_275 2 rfl rfl dX7_copy_56 (g_aload7 dX7_copy_59 (g_get fl_X7_275 2 rfl rfl dX7_copy_61 (g_icmp_eq (tgt := 70) dX7_copy_64 (by decide) (fun h64 => g_aload6 dX7_copy_70 (g_iload2 dX7_copy_72 (g_iload5 dX7_copy_73 (?c75_3)))) (fun h64 => g_bipush kb_m13 dX7_copy_67 (g_iret rfl dX7_copy_69 (Nat.le_of_ble_eq_true rfl) (Nat.le_of_ble_eq_true rfl) ?q69_3))))))) (fun h48 => g_bipush kb_m11 dX7_copy_51 (g_iret rfl dX7_copy_53 (Nat.le_of_ble_eq_true rfl) (Nat.le_of_ble_eq_true rfl) ?q53_3'))))))))))
      case q53_3 => rw [if_pos (by omega)] at hQ; exact hQ _ _ ⟨rfl, hw'⟩
      case q53_3' => rw [if_pos (by omega)] at hQ; exact hQ _ _ ⟨rfl, hw'⟩
      case q69_3 => exact absurd rfl h64
      case c75_3 =>
        rw [if_neg (by omega), if_neg (fun q => q rfl)] at hQ
        have z2 := g_biz (p := (0 ≤ n.toInt ∧ n.toInt ≤ (nI s.2.length).toInt ∧ 0 ≤ f.toInt ∧ f.toInt ≤ (nI s.2.length).toInt - n.toInt))
        have z3 := g_biz (p := (0 ≤ n.toInt ∧ n.toInt ≤ (nI s.2.length).toInt ∧ 0 ≤ g.toInt ∧ g.toInt ≤ (nI s.2.length).toInt - n.toInt))
        refine g_V2i dX7_copy_75 mv_X7_284 2 rfl rfl rfl (Nat.le_of_ble_eq_true rfl) (Nat.le_of_ble_eq_true rfl) ((c_holdsStretch hN (by omega) (by omega) f n).frame (X := [(a 0, dolO a im tc), (a 50, raS E a)]) (Y := [])) (fun r1 w1 hq => ?_)
        obtain ⟨w3, ⟨rfl, rfl⟩, rfl⟩ := hq
        refine g_if_eq (tgt := 93) dX7_copy_78 (by decide) (fun h78 => g_bipush kb_m12 dX7_copy_93 (g_iret rfl dX7_copy_95 (Nat.le_of_ble_eq_true rfl) (Nat.le_of_ble_eq_true rfl) ?q95_4)) (fun h78 => g_aload7 dX7_copy_81 (g_iload4 dX7_copy_83 (g_iload5 dX7_copy_85 (?c87_4))))
        case q95_4 => rw [if_pos (by omega)] at hQ; exact hQ _ _ ⟨rfl, hw'⟩
        case c87_4 =>
          refine g_V2i dX7_copy_87 mv_X7_284 2 rfl rfl rfl (Nat.le_of_ble_eq_true rfl) (Nat.le_of_ble_eq_true rfl) ((c_holdsStretch hN (by omega) (by omega) g n).frame (X := [(a 0, dolO a im tc), (a 50, raS E a)]) (Y := [])) (fun r1 w1 hq => ?_)
          obtain ⟨w3, ⟨rfl, rfl⟩, rfl⟩ := hq
          refine g_if_ne (tgt := 96) dX7_copy_90 (by decide) (fun h90 => g_aload6 dX7_copy_96 (g_get fl_X7_219 2 rfl rfl dX7_copy_98 (g_iload2 dX7_copy_101 (g_aload7 dX7_copy_102 (g_get fl_X7_219 2 rfl rfl dX7_copy_104 (g_iload4 dX7_copy_107 (g_iload5 dX7_copy_109 (?s111_5)))))))) (fun h90 => g_bipush kb_m12 dX7_copy_93 (g_iret rfl dX7_copy_95 (Nat.le_of_ble_eq_true rfl) (Nat.le_of_ble_eq_true rfl) ?q95_5))
          case q95_5 => rw [if_pos (by omega)] at hQ; exact hQ _ _ ⟨rfl, hw'⟩
          case s111_5 =>
            rw [if_neg (by omega)] at hQ
            refine g_acopy rfl 3 3 rfl rfl (by omega) (by omega) (by omega) (by omega) (by omega) dX7_copy_111 ?_
            refine g_iload5 dX7_copy_114 (g_iret rfl dX7_copy_116 (Nat.le_of_ble_eq_true rfl) (Nat.le_of_ble_eq_true rfl) ?q116_6)
            refine hQ _ _ ⟨rfl, hi, _, Sht.mk rfl ?_ ?_ ?_, rfl⟩
            · rw [cpV_len]
            · rw [cpV_len]; exact hV
            · exact cpV_lay hit hit (by omega)
set_option maxRecDepth 20000 in
set_option maxHeartbeats 1000000 in
theorem c_copy2 (hN : g_N E) (hw : Acp E a im tc i1 i2 s1 s2 w) (x f y g n : Int32) (hx : shN x i1) (hy : shN y i2) : g_Ci E mX7_copy (d + 4) [.ref (a 0), .int x, .int f, .int y, .int g, .int n] w (fun z w' => z = (sCopy x f y g n s1 s2).1 ∧ Acp E a im tc i1 i2 s1 (s2.1, (sCopy x f y g n s1 s2).2) w') := by
  have hw' := hw
  obtain ⟨hi1, hi2, ws1, ws2, hs1, hs2, rfl⟩ := hw
  have hs1' := hs1
  have hs2' := hs2
  obtain ⟨hV1, it1, rfl, hit1⟩ := hs1
  obtain ⟨hV2, it2, rfl, hit2⟩ := hs2
  have eV1 := t_nI (n := s1.2.length) (by omega)
  have eV2 := t_nI (n := s2.2.length) (by omega)
  refine g_enterI hN.1 (by decide) [some (.ref (a 0)), some (.int x), some (.int f), some (.int y), some (.int g), some (.int n), none, none] rfl (Nat.le_of_ble_eq_true rfl) (fun A Q hQ => ?_)
  have tcm13 := tc_m13; have tcm12 := tc_m12; have tcm11 := tc_m11; have tcm2 := tc_m2; have tcm1 := tc_m1
  have z0 := g_biz (p := (0 ≤ x.toInt ∧ x.toInt ≤ 3))
  have z1 := g_biz (p := (0 ≤ y.toInt ∧ y.toInt ≤ 3))
  unfold sCopy at hQ
  refine g_iload1 dX7_copy_0 (r_X7_isSheet hN mv_X7_269 dX7_copy_1 (Nat.le_of_ble_eq_true rfl) (Nat.le_of_ble_eq_true rfl) rfl (g_if_eq (tgt := 14) dX7_copy_4 (by decide) (fun h4 => g_bipush kb_m2 dX7_copy_14 (g_iret rfl dX7_copy_16 (Nat.le_of_ble_eq_true rfl) (Nat.le_of_ble_eq_true rfl) ?q16)) (fun h4 => g_iload3 dX7_copy_7 (r_X7_isSheet hN mv_X7_269 dX7_copy_8 (Nat.le_of_ble_eq_true rfl) (Nat.le_of_ble_eq_true rfl) rfl (g_if_ne (tgt := 17) dX7_copy_11 (by decide) (fun h11 => g_aload0 dX7_copy_17 (g_get fl_X7_65 0 rfl rfl dX7_copy_18 (g_iload1 dX7_copy_21 (g_aaload 2 1 rfl rfl dX7_copy_22 ?b22 (?a22))))) (fun h11 => g_bipush kb_m2 dX7_copy_14 (g_iret rfl dX7_copy_16 (Nat.le_of_ble_eq_true rfl) (Nat.le_of_ble_eq_true rfl) ?q16')))))))
  case q16 => rw [if_pos (by omega)] at hQ; exact hQ _ _ ⟨rfl, hw'⟩
  case q16' => rw [if_pos (by omega)] at hQ; exact hQ _ _ ⟨rfl, hw'⟩
  all_goals rw [if_neg (by omega)] at hQ
  case b22 => exact ⟨by omega, by show _ < (4 : Int); omega⟩
  case a22 =>
    rw [hx (by omega)]
    dsimp only [va_rf]
    refine g_astore6 dX7_copy_23 rfl rfl (g_aload0 dX7_copy_25 (g_get fl_X7_65 0 rfl rfl dX7_copy_26 (g_iload3 dX7_copy_29 (g_aaload 2 1 rfl rfl dX7_copy_30 ?b30_2 (?a30_2)))))
    case b30_2 => exact ⟨by omega, by show _ < (4 : Int); omega⟩
    case a30_2 =>
      rw [hy (by omega)]
      dsimp only [va_rf]
      refine g_astore7 dX7_copy_31 rfl rfl (g_aload6 dX7_copy_33 (g_get fl_X7_275 2 rfl rfl dX7_copy_35 (g_iconst ki_m1 dX7_copy_38 (g_icmp_eq (tgt := 51) dX7_copy_39 (by decide) (fun h39 => g_bipush kb_m11 dX7_copy_51 (g_iret rfl dX7_copy_53 (Nat.le_of_ble_eq_true rfl) (Nat.le_of_ble_eq_true rfl) ?q53_3)) (fun h39 => g_aload7 dX7_copy_42 (g_get fl_X7_275 4 rfl rfl dX7_copy_44 (g_iconst ki_m1 dX7_copy_47 (g_icmp_ne (tgt := 54) dX7_copy_48 (by decide) (fun h48 => g_aload6 dX7_copy_54 (g_get fl_X7_275 2 rfl rfl dX7_copy_56 (g_aload7 dX7_copy_59 (g_get fl_X7_275 4 rfl rfl dX7_copy_61 (g_icmp_eq (tgt := 70) dX7_copy_64 (by decide) (fun h64 => g_aload6 dX7_copy_70 (g_iload2 dX7_copy_72 (g_iload5 dX7_copy_73 (?c75_3)))) (fun h64 => g_bipush kb_m13 dX7_copy_67 (g_iret rfl dX7_copy_69 (Nat.le_of_ble_eq_true rfl) (Nat.le_of_ble_eq_true rfl) ?q69_3))))))) (fun h48 => g_bipush kb_m11 dX7_copy_51 (g_iret rfl dX7_copy_53 (Nat.le_of_ble_eq_true rfl) (Nat.le_of_ble_eq_true rfl) ?q53_3'))))))))))
      case q53_3 => rw [if_pos (by omega)] at hQ; exact hQ _ _ ⟨rfl, hw'⟩
      case q53_3' => rw [if_pos (by omega)] at hQ; exact hQ _ _ ⟨rfl, hw'⟩
      case q69_3 => rw [if_neg (by omega), if_pos (by omega)] at hQ; exact hQ _ _ ⟨rfl, hw'⟩
      case c75_3 =>
        rw [if_neg (by omega), if_neg (by omega)] at hQ
        have z2 := g_biz (p := (0 ≤ n.toInt ∧ n.toInt ≤ (nI s1.2.length).toInt ∧ 0 ≤ f.toInt ∧ f.toInt ≤ (nI s1.2.length).toInt - n.toInt))
        have z3 := g_biz (p := (0 ≤ n.toInt ∧ n.toInt ≤ (nI s2.2.length).toInt ∧ 0 ≤ g.toInt ∧ g.toInt ≤ (nI s2.2.length).toInt - n.toInt))
        refine g_V2i dX7_copy_75 mv_X7_284 2 rfl rfl rfl (Nat.le_of_ble_eq_true rfl) (Nat.le_of_ble_eq_true rfl) ((c_holdsStretch hN (by omega) (by omega) f n).frame (X := [(a 0, dolO a im tc), (a 50, raS E a)]) (Y := shtW E a (78 + 2 * i2) it2 s2.1 (nI s2.2.length))) (fun r1 w1 hq => ?_)
        obtain ⟨w3, ⟨rfl, rfl⟩, rfl⟩ := hq
        refine g_if_eq (tgt := 93) dX7_copy_78 (by decide) (fun h78 => g_bipush kb_m12 dX7_copy_93 (g_iret rfl dX7_copy_95 (Nat.le_of_ble_eq_true rfl) (Nat.le_of_ble_eq_true rfl) ?q95_4)) (fun h78 => g_aload7 dX7_copy_81 (g_iload4 dX7_copy_83 (g_iload5 dX7_copy_85 (?c87_4))))
        case q95_4 => rw [if_pos (by omega)] at hQ; exact hQ _ _ ⟨rfl, hw'⟩
        case c87_4 =>
          refine g_V2i dX7_copy_87 mv_X7_284 4 rfl rfl rfl (Nat.le_of_ble_eq_true rfl) (Nat.le_of_ble_eq_true rfl) ((c_holdsStretch hN (by omega) (by omega) g n).frame (X := (a 0, dolO a im tc) :: (a 50, raS E a) :: shtW E a (78 + 2 * i1) it1 s1.1 (nI s1.2.length)) (Y := [])) (fun r1 w1 hq => ?_)
          obtain ⟨w3, ⟨rfl, rfl⟩, rfl⟩ := hq
          refine g_if_ne (tgt := 96) dX7_copy_90 (by decide) (fun h90 => g_aload6 dX7_copy_96 (g_get fl_X7_219 2 rfl rfl dX7_copy_98 (g_iload2 dX7_copy_101 (g_aload7 dX7_copy_102 (g_get fl_X7_219 4 rfl rfl dX7_copy_104 (g_iload4 dX7_copy_107 (g_iload5 dX7_copy_109 (?s111_5)))))))) (fun h90 => g_bipush kb_m12 dX7_copy_93 (g_iret rfl dX7_copy_95 (Nat.le_of_ble_eq_true rfl) (Nat.le_of_ble_eq_true rfl) ?q95_5))
          case q95_5 => rw [if_pos (by omega)] at hQ; exact hQ _ _ ⟨rfl, hw'⟩
          case s111_5 =>
            rw [if_neg (by omega)] at hQ
            refine g_acopy rfl 3 5 rfl rfl (by omega) (by omega) (by omega) (by omega) (by omega) dX7_copy_111 ?_
            refine g_iload5 dX7_copy_114 (g_iret rfl dX7_copy_116 (Nat.le_of_ble_eq_true rfl) (Nat.le_of_ble_eq_true rfl) ?q116_6)
            refine hQ _ _ ⟨rfl, hi1, hi2, _, _, hs1', Sht.mk rfl ?_ ?_ ?_, rfl⟩
            · rw [cpV_len]
            · rw [cpV_len]; exact hV2
            · exact cpV_lay hit1 hit2 (by omega)
end S9e
