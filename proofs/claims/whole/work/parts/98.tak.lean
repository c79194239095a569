theorem inM_bit : ∀ s, s < 64 → ∀ y, y < 6 → ((nI s &&& ((1 : Int32) <<< (nI y &&& 31))).toInt = 0 ↔ s.testBit y = false) := by decide +kernel
section S98
variable {E : GE} {d : Nat} {b : Nat → Nat} {v : Nat → Int32} {t : Int64} {f : Nat → Nat → Int32} {D : Dg} {B : List Nat} {C : List Int32} {e : Nat → Nat} {ru : Nat}
set_option maxRecDepth 20000 in
set_option maxHeartbeats 1000000 in
theorem c_X8_fetch (hN : g_N E) (hD : dgOK D) (hM : MD v f D) (hr : v 4 = nI ru) (hr6 : ru < 6) (hTB : TB B ru f) (hX : TX B C e) : g_Ci E mX8_fetch (d + 65) [.ref (b 0)] (mW E b v t f) (fun z w => z = nI (srF D.1.length (fun _ => hdN D) (hoN D)).1 ∧ ∃ v' t' f', w = mW E b v' t' f' ∧ agV mK8 v v' ∧ agF [42, 43, 46] f f') := by
  refine g_enterI hN.1 (by decide) [some (.ref (b 0))] rfl (Nat.le_of_ble_eq_true rfl) (fun A Q hQ => ?_)
  skip
  refine g_aload0 dX8_fetch_0 (?c1)
  refine g_V0v dX8_fetch_1 mv_X8_337 0 rfl rfl rfl (Nat.le_of_ble_eq_true rfl) (Nat.le_of_ble_eq_true rfl) (c_X8_fetching (d := d) hN hD hM hr hr6 hTB hX) (fun w1 hq => ?_)
  obtain ⟨v3, t3, f3, rfl, g1, g2, g3, g4, g5⟩ := hq
  refine g_aload0 dX8_fetch_4 (g_mget fl_X8_327 mg_44 dX8_fetch_5 (g_iret rfl dX8_fetch_8 (Nat.le_of_ble_eq_true rfl) (Nat.le_of_ble_eq_true rfl) ?q8_2))
  exact hQ _ _ ⟨g3, v3, t3, f3, rfl, g1, g2⟩
set_option maxRecDepth 20000 in
set_option maxHeartbeats 1000000 in
theorem c_X8_walk (hN : g_N E) (hD : dgOK D) (hM : MD v f D) (hr : v 4 = nI ru) (hr6 : ru < 6) (hTB : TB B ru f) (hX : TX B C e) : g_Ci E mX8_walk (d + 65) [.ref (b 0)] (mW E b v t f) (fun z w => z = nI (srF D.1.length (fun _ => prW D C e) (fun _ => 0)).1 ∧ ∃ v' t' f', w = mW E b v' t' f' ∧ agV mK8 v v' ∧ agF [42, 43, 46] f f') := by
  refine g_enterI hN.1 (by decide) [some (.ref (b 0))] rfl (Nat.le_of_ble_eq_true rfl) (fun A Q hQ => ?_)
  skip
  refine g_aload0 dX8_walk_0 (?c1)
  refine g_V0v dX8_walk_1 mv_X8_337 0 rfl rfl rfl (Nat.le_of_ble_eq_true rfl) (Nat.le_of_ble_eq_true rfl) (c_X8_fetching (d := d) hN hD hM hr hr6 hTB hX) (fun w1 hq => ?_)
  obtain ⟨v3, t3, f3, rfl, g1, g2, g3, g4, g5⟩ := hq
  refine g_aload0 dX8_walk_4 (g_mget fl_X8_330 mg_45 dX8_walk_5 (g_iret rfl dX8_walk_8 (Nat.le_of_ble_eq_true rfl) (Nat.le_of_ble_eq_true rfl) ?q8_2))
  exact hQ _ _ ⟨g5, v3, t3, f3, rfl, g1, g2⟩
set_option maxRecDepth 20000 in
set_option maxHeartbeats 1000000 in
theorem c_X8_fetched (hN : g_N E) (hD : dgOK D) (hM : MD v f D) (hr : v 4 = nI ru) (hr6 : ru < 6) (hTB : TB B ru f) (hX : TX B C e) (k : Int32) : g_Ci E mX8_fetched (d + 65) [.ref (b 0), .int k] (mW E b v t f) (fun z w => (¬ (0 ≤ k.toInt ∧ k.toInt < D.1.length) → z = -2) ∧ (0 ≤ k.toInt ∧ k.toInt < D.1.length → ∀ x, (srF D.1.length (fun _ => hdN D) (hoN D)).2[k.toInt.toNat]? = some x → z = nI x) ∧ ∃ v' t' f', w = mW E b v' t' f' ∧ agV mK8 v v' ∧ agF [42, 43, 46] f f') := by
  obtain ⟨n0, n1, n2⟩ := hM.n1 hD.1
  have hn := hD.1
  refine g_enterI hN.1 (by decide) [some (.ref (b 0)), some (.int k)] rfl (Nat.le_of_ble_eq_true rfl) (fun A Q hQ => ?_)
  have tcm2 := tc_m2
  refine g_aload0 dX8_fetched_0 (g_iload1 dX8_fetched_1 (r_X8_isDog hN mv_X8_119 dX8_fetched_2 (Nat.le_of_ble_eq_true rfl) (Nat.le_of_ble_eq_true rfl) rfl (g_if_ne (tgt := 11) dX8_fetched_5 (by decide) (fun h5 => g_aload0 dX8_fetched_11 (?c12)) (fun h5 => g_bipush kb_m2 dX8_fetched_8 (g_iret rfl dX8_fetched_10 (Nat.le_of_ble_eq_true rfl) (Nat.le_of_ble_eq_true rfl) ?q10)))))
  all_goals try simp only [g_biz, Int32.toInt_toInt64, tl_m4611686018427387904, tl_m1, tl_0, tl_1, tl_2, tl_3, tl_4, tl_5, tl_9, tl_10, tl_20, tl_40, tl_43, tl_48, tl_57, tl_60, tl_97, tl_99, tl_122, tl_255] at *
  case q10 => exact hQ _ _ ⟨fun _ => rfl, fun q => by omega, v, t, f, rfl, agV.rf, agF.rf⟩
  case c12 =>
    refine g_V0v dX8_fetched_12 mv_X8_337 0 rfl rfl rfl (Nat.le_of_ble_eq_true rfl) (Nat.le_of_ble_eq_true rfl) (c_X8_fetching (d := d) hN hD hM hr hr6 hTB hX) (fun w1 hq => ?_)
    obtain ⟨v3, t3, f3, rfl, g1, g2, g3, g4, g5⟩ := hq
    refine g_aload0 dX8_fetched_15 (g_mget fl_X8_68 mg_43 dX8_fetched_16 (g_iload1 dX8_fetched_19 (g_mia ma_43 dX8_fetched_20 ?b20_2 (g_iret rfl dX8_fetched_21 (Nat.le_of_ble_eq_true rfl) (Nat.le_of_ble_eq_true rfl) ?q21_2))))
    case b20_2 => omega
    case q21_2 => exact hQ _ _ ⟨fun q => by omega, fun _ x hx => g4.at hx, v3, t3, f3, rfl, g1, g2⟩
set_option maxRecDepth 20000 in
set_option maxHeartbeats 2000000 in
theorem c_X8_take (hN : g_N E) (hD : dgOK D) (hM : MD v f D) (hr : v 4 = nI ru) (hr6 : ru < 6) (hTB : TB B ru f) (hX : TX B C e) (k : Int32) : g_Ci E mX8_take (d + 65) [.ref (b 0), .int k] (mW E b v t f) (fun z w => sTake D C e k z ∧ ∃ v' t' f', w = mW E b v' t' f' ∧ agV mK3 v v' ∧ agF [46] f f') := by
  obtain ⟨hn, l1, l2, l3, l4, b1, b2, b3, b4, b5, hnd⟩ := id hD
  have h64 := two_pow6 hn
  have hpos : 0 < 2 ^ D.1.length := Nat.two_pow_pos _
  have ep := t_nI (n := 2 ^ D.1.length) (by omega)
  refine g_enterI hN.1 (by decide) [some (.ref (b 0)), some (.int k), none, none, none, none, none, none] rfl (Nat.le_of_ble_eq_true rfl) (fun A Q hQ => ?_)
  have tcm100000 := tc_m100000; have tc0 := tc_0; have tc1 := tc_1; have tc3 := tc_3; have tc6 := tc_6
  unfold sTake at hQ
  have sets : ∀ v2 t2 f2, agV mK3 v v2 → agF [46] f f2 → (0 ≤ k.toInt ∧ k.toInt ≤ 1) → dnO D.1.length (rhI D C e 1) D.1.length 0 (f2 46) → ∀ l2 l3 l4 l5 l6 l7 : Option Value, G E mX8_take (d + 65) 0 0 A Q 0 0 73 [some (.ref (b 0)), some (.int k), l2, l3, l4, l5, l6, l7] [] (mW E b v2 t2 f2) := by
    intro v2 t2 f2 h1 h2 hk hdn l2 l3 l4 l5 l6 l7
    have e12 : (v2 12).toInt = D.1.length := by rw [h1.at 12 rfl, hM.1, t_nI (by omega)]
    have e12b : ((1 : Int32) <<< (v2 12 &&& 31)).toInt = ((2 ^ D.1.length : Nat) : Int) := by rw [h1.at 12 rfl, hM.1, (pow_nI hn).2, ep]
    have loop : ∀ u i (z : Int32) l5 l6 l7, i + u = 2 ^ D.1.length - 1 → z.toInt = (tkF D C e i).2 → G E mX8_take (d + 65) 0 0 A Q 0 0 80 [some (.ref (b 0)), some (.int k), some (.int (nI (tkF D C e i).1)), some (.int z), some (.int (nI (i + 1))), l5, l6, l7] [] (mW E b v2 t2 f2) := by
      intro u
      induction u with
      | zero =>
        intro i z l5 l6 l7 hi hz
        have ei := t_nI (n := i + 1) (by omega)
        have he : i = 2 ^ D.1.length - 1 := by omega
        refine g_iload4 dX8_take_80 (g_iconst ki_1 dX8_take_82 (g_aload0 dX8_take_83 (g_mget fl_X8_103 mg_12 dX8_take_84 (g_ishl dX8_take_87 (g_icmp_ge (tgt := 209) dX8_take_88 (by decide) (fun h88 => g_iload1 dX8_take_209 (g_if_ne (tgt := 217) dX8_take_210 (by decide) (fun h210 => g_iload3 dX8_take_217 (g_iret rfl dX8_take_218 (Nat.le_of_ble_eq_true rfl) (Nat.le_of_ble_eq_true rfl) ?q218)) (fun h210 => g_iload2 dX8_take_213 (g_goto (tgt := 218) dX8_take_214 (by decide) (g_iret rfl dX8_take_218 (Nat.le_of_ble_eq_true rfl) (Nat.le_of_ble_eq_true rfl) ?q218'))))) (fun h88 => ?s91))))))
        case s91 => omega
        case q218 => exact hQ _ _ ⟨⟨fun q => by omega, fun q => by omega, fun q => by rw [hz, he]⟩, v2, t2, f2, rfl, h1, h2⟩
        case q218' => exact hQ _ _ ⟨⟨fun q => by omega, fun q => by rw [he], fun q => by omega⟩, v2, t2, f2, rfl, h1, h2⟩
      | succ u ih =>
        intro i z l5 l6 l7 hi hz
        have ei := t_nI (n := i + 1) (by omega)
        have htk : tkF D C e (i + 1) = if (tkF D C e i).2 < wsF D C e (nI (i + 1)) D.1.length then (i + 1, wsF D C e (nI (i + 1)) D.1.length) else tkF D C e i := rfl
        have hnext := fun z l5 l6 l7 => ih (i + 1) z l5 l6 l7 (by omega)
        rw [htk] at hnext
        generalize hm : nI (i + 1) = m at *
        have hbit : ∀ y, y < 6 → (inM m y ↔ (i + 1).testBit y = true) := by
          intro y hy
          have := inM_bit (i + 1) (by omega) y hy
          rw [hm] at this
          unfold inM
          rw [this]
          cases (i + 1).testBit y <;> simp
        have hsb : ∀ y, y < 6 → ((m >>> (nI y &&& 31)) &&& 1).toInt = if (i + 1).testBit y = true then 1 else 0 := by
          intro y hy
          have := sbit (i + 1) (by omega) y hy
          rw [hm] at this
          rw [this]
          split <;> decide
        have main : ∀ w a (y : Int32) l7, a + w = D.1.length → y.toInt = wsF D C e m a → G E mX8_take (d + 65) 0 0 A Q 0 0 97 [some (.ref (b 0)), some (.int k), some (.int (nI (tkF D C e i).1)), some (.int z), some (.int m), some (.int y), some (.int (nI a)), l7] [] (mW E b v2 t2 f2) := by
          intro w
          induction w with
          | zero =>
            intro a y l7 ha hy
            have ea := t_nI (n := a) (by omega)
            have hae : a = D.1.length := by omega
            rw [hae] at hy
            refine g_iload6 dX8_take_97 (g_aload0 dX8_take_99 (g_mget fl_X8_103 mg_12 dX8_take_100 (g_icmp_ge (tgt := 191) dX8_take_103 (by decide) (fun h103 => g_iload5 dX8_take_191 (g_iload3 dX8_take_193 (g_icmp_le (tgt := 203) dX8_take_194 (by decide) (fun h194 => g_iinc4 ki_1 dX8_take_203 rfl rfl (g_goto (tgt := 80) dX8_take_206 (by decide) (?s80_2))) (fun h194 => g_iload4 dX8_take_197 (g_istore2 dX8_take_199 rfl rfl (g_iload5 dX8_take_200 (g_istore3 dX8_take_202 rfl rfl (g_iinc4 ki_1 dX8_take_203 rfl rfl (g_goto (tgt := 80) dX8_take_206 (by decide) (?s80_2')))))))))) (fun h103 => ?s106_2))))
            case s106_2 => omega
            case s80_2 =>
              rw [if_neg (by omega)] at hnext
              rw [← hm, nI_1]
              exact hnext _ _ _ _ hz
            case s80_2' =>
              rw [if_pos (by omega)] at hnext
              have := hnext y (some (.int y)) (some (.int (nI a))) l7 hy
              rw [← hm, nI_1]
              dsimp only at this
              exact this
          | succ w ihw =>
            intro a y l7 ha hy
            have ea := t_nI (n := a) (by omega)
            have hs := hsb a (by omega)
            have hbt := hbit a (by omega)
            have hwb := wsF_b hD C e m a (by omega)
            have hws : wsF D C e m (a + 1) = wsF D C e m a + (if inM m a then wsI D C e m a (D.1.length - 1 - a) - 3 * (D.2.1.getD a 0 : Nat) else 0) := rfl
            have gp := getD_at (l := D.2.1) (i := a) (by omega)
            have bp := b2 _ (List.mem_of_getElem? gp)
            have ppc : f2 8 a = nI (D.2.1.getD a 0) := by rw [h2.at 8 rfl]; exact hM.2.2.1.at gp
            have epc := t_nI (n := D.2.1.getD a 0) (by omega)
            have e3 : (3 * nI (D.2.1.getD a 0)).toInt = 3 * (D.2.1.getD a 0 : Nat) := by rw [t_mul (by rw [tc_3, epc]; omega) (by rw [tc_3, epc]; omega), tc_3, epc]
            by_cases hin : (i + 1).testBit a = true
            · rw [if_pos hin] at hs
              rw [if_pos (hbt.mpr hin)] at hws
              have inner : ∀ q c (y : Int32), c + q = D.1.length - 1 - a → y.toInt = wsF D C e m a - 3 * (D.2.1.getD a 0 : Nat) + wsI D C e m a c → G E mX8_take (d + 65) 0 0 A Q 0 0 137 [some (.ref (b 0)), some (.int k), some (.int (nI (tkF D C e i).1)), some (.int z), some (.int m), some (.int y), some (.int (nI a)), some (.int (nI (a + 1 + c)))] [] (mW E b v2 t2 f2) := by
                intro q
                induction q with
                | zero =>
                  intro c y hc hy
                  have ec := t_nI (n := a + 1 + c) (by omega)
                  refine g_iload7 dX8_take_137 (g_aload0 dX8_take_139 (g_mget fl_X8_103 mg_12 dX8_take_140 (g_icmp_ge (tgt := 185) dX8_take_143 (by decide) (fun h143 => g_iinc6 ki_1 dX8_take_185 rfl rfl (g_goto (tgt := 97) dX8_take_188 (by decide) (?s97_3))) (fun h143 => ?s146_3))))
                  case s146_3 => omega
                  case s97_3 =>
                    rw [nI_1]
                    refine ihw (a + 1) y _ (by omega) ?_
                    rw [hy, hws, show c = D.1.length - 1 - a by omega]
                    omega
                | succ q ihq =>
                  intro c y hc hy
                  have ec := t_nI (n := a + 1 + c) (by omega)
                  have hs2 := hsb (a + 1 + c) (by omega)
                  have hbt2 := hbit (a + 1 + c) (by omega)
                  have hib := wsI_b D C e m a c
                  have hwi : wsI D C e m a (c + 1) = wsI D C e m a c + (if inM m (a + 1 + c) then rhI D C e 1 a (a + 1 + c) else 0) := rfl
                  have hix := ix_6 (x := a) (y := a + 1 + c) (by omega) (by omega)
                  have hod := hdn a (a + 1 + c) (by omega) (by omega) (by omega) (Or.inl (by omega))
                  have hrb := rlI_1 C e (nmF D.1.length D.2.1 a (a + 1 + c) (nI (absN (plN D a) (plN D (a + 1 + c)))) (nI (plN D (min a (a + 1 + c))))) 1
                  have hrh : rhI D C e 1 a (a + 1 + c) = rlI C e 1 (nmF D.1.length D.2.1 a (a + 1 + c) (nI (absN (plN D a) (plN D (a + 1 + c)))) (nI (plN D (min a (a + 1 + c))))) := rfl
                  have hnx := ihq (c + 1)
                  by_cases hin2 : (i + 1).testBit (a + 1 + c) = true
                  · rw [if_pos hin2] at hs2
                    rw [if_pos (hbt2.mpr hin2)] at hwi
                    refine g_iload7 dX8_take_137 (g_aload0 dX8_take_139 (g_mget fl_X8_103 mg_12 dX8_take_140 (g_icmp_ge (tgt := 185) dX8_take_143 (by decide) (fun h143 => ?s185_4) (fun h143 => g_iload5 dX8_take_146 (g_iload4 dX8_take_148 (g_iload7 dX8_take_150 (g_ishr dX8_take_152 (g_iconst ki_1 dX8_take_153 (g_iand dX8_take_154 (g_iconst ki_1 dX8_take_155 (g_icmp_ne (tgt := 175) dX8_take_156 (by decide) (fun h156 => ?s175_4) (fun h156 => g_aload0 dX8_take_159 (g_mget fl_X8_71 mg_46 dX8_take_160 (g_bipush kb_6 dX8_take_163 (g_iload6 dX8_take_165 (g_imul dX8_take_167 (g_iload7 dX8_take_168 (g_iadd dX8_take_170 (g_mia ma_46 dX8_take_171 ?b171_4 (g_goto (tgt := 176) dX8_take_172 (by decide) (g_iadd dX8_take_176 (g_istore5 dX8_take_177 rfl rfl (g_iinc7 ki_1 dX8_take_179 rfl rfl (g_goto (tgt := 137) dX8_take_182 (by decide) (?s137_4)))))))))))))))))))))))))
                    case s185_4 => omega
                    case s175_4 => omega
                    case b171_4 => rw [hix]; show _ ∧ _ < (36 : Int); omega
                    case s137_4 =>
                      rw [hix, Int.toNat_natCast, nI_1]
                      refine hnx _ (by omega) ?_
                      rw [t_add (by omega) (by omega), hod, hwi, hy]
                      omega
                  · rw [if_neg hin2] at hs2
                    rw [if_neg (fun q => hin2 (hbt2.mp q))] at hwi
                    refine g_iload7 dX8_take_137 (g_aload0 dX8_take_139 (g_mget fl_X8_103 mg_12 dX8_take_140 (g_icmp_ge (tgt := 185) dX8_take_143 (by decide) (fun h143 => ?s185_5) (fun h143 => g_iload5 dX8_take_146 (g_iload4 dX8_take_148 (g_iload7 dX8_take_150 (g_ishr dX8_take_152 (g_iconst ki_1 dX8_take_153 (g_iand dX8_take_154 (g_iconst ki_1 dX8_take_155 (g_icmp_ne (tgt := 175) dX8_take_156 (by decide) (fun h156 => g_iconst ki_0 dX8_take_175 (g_iadd dX8_take_176 (g_istore5 dX8_take_177 rfl rfl (g_iinc7 ki_1 dX8_take_179 rfl rfl (g_goto (tgt := 137) dX8_take_182 (by decide) (?s137_5)))))) (fun h156 => ?s159_5))))))))))))
                    case s185_5 => omega
                    case s159_5 => omega
                    case s137_5 =>
                      rw [nI_1, Int32.add_zero]
                      refine hnx _ (by omega) ?_
                      rw [hwi, hy]
                      omega
              refine g_iload6 dX8_take_97 (g_aload0 dX8_take_99 (g_mget fl_X8_103 mg_12 dX8_take_100 (g_icmp_ge (tgt := 191) dX8_take_103 (by decide) (fun h103 => ?s191_6) (fun h103 => g_iload4 dX8_take_106 (g_iload6 dX8_take_108 (g_ishr dX8_take_110 (g_iconst ki_1 dX8_take_111 (g_iand dX8_take_112 (g_iconst ki_1 dX8_take_113 (g_icmp_ne (tgt := 185) dX8_take_114 (by decide) (fun h114 => ?s185_6) (fun h114 => g_iload5 dX8_take_117 (g_iconst ki_3 dX8_take_119 (g_aload0 dX8_take_120 (g_mget fl_X8_26 mg_8 dX8_take_121 (g_iload6 dX8_take_124 (g_mia ma_8 dX8_take_126 ?b126_6 (g_imul dX8_take_127 (g_isub dX8_take_128 (g_istore5 dX8_take_129 rfl rfl (g_iload6 dX8_take_131 (g_iconst ki_1 dX8_take_133 (g_iadd dX8_take_134 (g_istore7 dX8_take_135 rfl rfl (?s137_6))))))))))))))))))))))))
              case s191_6 => omega
              case s185_6 => omega
              case b126_6 => omega
              case s137_6 =>
                rw [nI_1, ea, Int.toNat_natCast, ppc]
                refine inner (D.1.length - 1 - a) 0 _ (by omega) ?_
                rw [t_sub (by omega) (by omega), e3, hy]
                show _ = _ + (0 : Int)
                omega
            · rw [if_neg hin] at hs
              rw [if_neg (fun q => hin (hbt.mp q))] at hws
              refine g_iload6 dX8_take_97 (g_aload0 dX8_take_99 (g_mget fl_X8_103 mg_12 dX8_take_100 (g_icmp_ge (tgt := 191) dX8_take_103 (by decide) (fun h103 => ?s191_7) (fun h103 => g_iload4 dX8_take_106 (g_iload6 dX8_take_108 (g_ishr dX8_take_110 (g_iconst ki_1 dX8_take_111 (g_iand dX8_take_112 (g_iconst ki_1 dX8_take_113 (g_icmp_ne (tgt := 185) dX8_take_114 (by decide) (fun h114 => g_iinc6 ki_1 dX8_take_185 rfl rfl (g_goto (tgt := 97) dX8_take_188 (by decide) (?s97_7))) (fun h114 => ?s117_7)))))))))))
              case s191_7 => omega
              case s117_7 => omega
              case s97_7 =>
                rw [nI_1]
                refine ihw (a + 1) y _ (by omega) ?_
                rw [hws, hy]
                omega
        refine g_iload4 dX8_take_80 (g_iconst ki_1 dX8_take_82 (g_aload0 dX8_take_83 (g_mget fl_X8_103 mg_12 dX8_take_84 (g_ishl dX8_take_87 (g_icmp_ge (tgt := 209) dX8_take_88 (by decide) (fun h88 => ?s209_8) (fun h88 => g_iconst ki_0 dX8_take_91 (g_istore5 dX8_take_92 rfl rfl (g_iconst ki_0 dX8_take_94 (g_istore6 dX8_take_95 rfl rfl (?s97_8))))))))))
        case s209_8 => omega
        case s97_8 => exact main D.1.length 0 0 _ (by omega) (by show (0 : Int32).toInt = 0; decide)
    refine g_iconst ki_0 dX8_take_73 (g_istore2 dX8_take_74 rfl rfl (g_iconst ki_0 dX8_take_75 (g_istore3 dX8_take_76 rfl rfl (g_iconst ki_1 dX8_take_77 (g_istore4 dX8_take_78 rfl rfl (?s80_9))))))
    exact loop (2 ^ D.1.length - 1) 0 0 _ _ _ (by omega) (by show (0 : Int32).toInt = 0; decide)
  have outer : ∀ u x v2 t2 f2 l3, x + u = D.1.length → (0 ≤ k.toInt ∧ k.toInt ≤ 1) → agV mK3 v v2 → agF [46] f f2 → dnO D.1.length (rhI D C e 1) x 0 (f2 46) → G E mX8_take (d + 65) 0 0 A Q 0 0 16 [some (.ref (b 0)), some (.int k), some (.int (nI x)), l3, none, none, none, none] [] (mW E b v2 t2 f2) := by
    intro u
    induction u with
    | zero =>
      intro x v2 t2 f2 l3 hx hk h1 h2 h3
      have ex := t_nI (n := x) (by omega)
      have e12 : (v2 12).toInt = D.1.length := by rw [h1.at 12 rfl, hM.1, t_nI (by omega)]
      have hxe : x = D.1.length := by omega
      subst hxe
      refine g_iload2 dX8_take_16 (g_aload0 dX8_take_17 (g_mget fl_X8_103 mg_12 dX8_take_18 (g_icmp_ge (tgt := 73) dX8_take_21 (by decide) (fun h21 => ?s73_10) (fun h21 => ?s24_10))))
      case s24_10 => omega
      case s73_10 => exact sets v2 t2 f2 h1 h2 hk h3 _ _ _ _ _ _
    | succ u ih =>
      intro x v2 t2 f2 l3 hx hk h1 h2 h3
      have ex := t_nI (n := x) (by omega)
      have e12 : (v2 12).toInt = D.1.length := by rw [h1.at 12 rfl, hM.1, t_nI (by omega)]
      have inner : ∀ w y v2 t2 f2, y + w = D.1.length → agV mK3 v v2 → agF [46] f f2 → dnO D.1.length (rhI D C e 1) x y (f2 46) → G E mX8_take (d + 65) 0 0 A Q 0 0 26 [some (.ref (b 0)), some (.int k), some (.int (nI x)), some (.int (nI y)), none, none, none, none] [] (mW E b v2 t2 f2) := by
        intro w
        induction w with
        | zero =>
          intro y v2 t2 f2 hy h1 h2 h3
          have ey := t_nI (n := y) (by omega)
          have e12 : (v2 12).toInt = D.1.length := by rw [h1.at 12 rfl, hM.1, t_nI (by omega)]
          refine g_iload3 dX8_take_26 (g_aload0 dX8_take_27 (g_mget fl_X8_103 mg_12 dX8_take_28 (g_icmp_ge (tgt := 67) dX8_take_31 (by decide) (fun h31 => g_iinc2 ki_1 dX8_take_67 rfl rfl (g_goto (tgt := 16) dX8_take_70 (by decide) (?s16_11))) (fun h31 => ?s34_11))))
          case s34_11 => omega
          case s16_11 =>
            rw [nI_1]
            refine ih (x + 1) v2 t2 f2 _ (by omega) hk h1 h2 ?_
            intro x' y' k1 k2 k3 k4
            exact h3 x' y' k1 k2 k3 (by omega)
        | succ w ihw =>
          intro y v2 t2 f2 hy h1 h2 h3
          have ey := t_nI (n := y) (by omega)
          have e12 : (v2 12).toInt = D.1.length := by rw [h1.at 12 rfl, hM.1, t_nI (by omega)]
          have hix := ix_6 (x := x) (y := y) (by omega) (by omega)
          have nx : ∀ (z : Int32) v3 t3, agV mK3 v v3 → (x ≠ y → z.toInt = rhI D C e 1 x y) → G E mX8_take (d + 65) 0 0 A Q 0 0 60 [some (.ref (b 0)), some (.int k), some (.int (nI x)), some (.int (nI y)), none, none, none, none] [.int z, .int (6 * nI x + nI y), .ref (b 20)] (mW E b v3 t3 f2) := by
            intro z v3 t3 g1 hz
            refine g_mis ma_46 mas_46 dX8_take_60 ?b60_12 (g_iinc3 ki_1 dX8_take_61 rfl rfl (g_goto (tgt := 26) dX8_take_64 (by decide) (?s26_12)))
            case b60_12 => rw [hix]; show _ ∧ _ < (36 : Int); omega
            case s26_12 =>
              rw [hix, Int.toNat_natCast, nI_1]
              refine ihw (y + 1) v3 t3 _ (by omega) g1 (h2.up 46 _ rfl) ?_
              rw [updA_s]
              exact h3.set hn (by omega) (by omega) hz
          refine g_iload3 dX8_take_26 (g_aload0 dX8_take_27 (g_mget fl_X8_103 mg_12 dX8_take_28 (g_icmp_ge (tgt := 67) dX8_take_31 (by decide) (fun h31 => ?s67_13) (fun h31 => g_aload0 dX8_take_34 (g_mget fl_X8_71 mg_46 dX8_take_35 (g_bipush kb_6 dX8_take_38 (g_iload2 dX8_take_40 (g_imul dX8_take_41 (g_iload3 dX8_take_42 (g_iadd dX8_take_43 (g_iload2 dX8_take_44 (g_iload3 dX8_take_45 (g_icmp_ne (tgt := 53) dX8_take_46 (by decide) (fun h46 => g_aload0 dX8_take_53 (g_iconst ki_1 dX8_take_54 (g_iload2 dX8_take_55 (g_iload3 dX8_take_56 (?c57_13))))) (fun h46 => g_iconst ki_0 dX8_take_49 (g_goto (tgt := 60) dX8_take_50 (by decide) (?s60_13))))))))))))))))
          case s67_13 => omega
          case s60_13 => exact nx 0 v2 t2 h1 (fun q => by omega)
          case c57_13 =>
            have hs := c_X8_told2 (b := b) (t := t2) (d := d) (part := 1) hN hD (hM.ag h1 h2 rfl rfl) (by rw [h1.at 4 rfl]; exact hr) hr6 (hTB.ag h2 rfl rfl) hX (by omega) (show x < D.1.length by omega) (show y < D.1.length by omega)
            refine g_V3i dX8_take_57 mv_X8_266 0 rfl rfl rfl (Nat.le_of_ble_eq_true rfl) (Nat.le_of_ble_eq_true rfl) (hs) (fun z1_ w1 hq => ?_)
            obtain ⟨hz, v3, t3, rfl, g1⟩ := hq
            exact nx z1_ v3 t3 (h1.tr g1) (fun _ => hz)
      refine g_iload2 dX8_take_16 (g_aload0 dX8_take_17 (g_mget fl_X8_103 mg_12 dX8_take_18 (g_icmp_ge (tgt := 73) dX8_take_21 (by decide) (fun h21 => ?s73_14) (fun h21 => g_iconst ki_0 dX8_take_24 (g_istore3 dX8_take_25 rfl rfl (?s26_14))))))
      case s73_14 => omega
      case s26_14 => exact inner D.1.length 0 v2 t2 f2 (by omega) h1 h2 h3
  refine g_iload1 dX8_take_0 (g_i2l dX8_take_1 (g_lconst kl_0 dX8_take_2 (g_lconst kl_1 dX8_take_3 (r_X8_in hN mv_X8_106 dX8_take_4 (Nat.le_of_ble_eq_true rfl) (Nat.le_of_ble_eq_true rfl) rfl (g_if_ne (tgt := 14) dX8_take_7 (by decide) (fun h7 => g_iconst ki_0 dX8_take_14 (g_istore2 dX8_take_15 rfl rfl (?s16_15))) (fun h7 => g_ldc_w kc_X8_269 dX8_take_10 (g_iret rfl dX8_take_13 (Nat.le_of_ble_eq_true rfl) (Nat.le_of_ble_eq_true rfl) ?q13_15)))))))
  all_goals try simp only [g_biz, Int32.toInt_toInt64, tl_m4611686018427387904, tl_m1, tl_0, tl_1, tl_2, tl_3, tl_4, tl_5, tl_9, tl_10, tl_20, tl_40, tl_43, tl_48, tl_57, tl_60, tl_97, tl_99, tl_122, tl_255] at *
  case q13_15 => exact hQ _ _ ⟨⟨fun _ => tc_m100000, fun q => by omega, fun q => by omega⟩, v, t, f, rfl, agV.rf, agF.rf⟩
  case s16_15 => exact outer D.1.length 0 v t f _ (by omega) (by omega) agV.rf agF.rf (fun x' y' k1 k2 k3 k4 => by omega)
end S98
