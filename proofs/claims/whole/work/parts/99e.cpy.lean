/-! the model: one sheet to another -/
def cpV (V1 V2 : List Int32) (i j n : Nat) : List Int32 := (List.range V2.length).map (fun p => if j ≤ p ∧ p < j + n then V1.getD (i + (p - j)) 0 else V2.getD p 0)
theorem cpV_len (V1 V2 : List Int32) (i j n : Nat) : (cpV V1 V2 i j n).length = V2.length := by unfold cpV; rw [List.length_map, List.length_range]
theorem cpV_get {V1 V2 : List Int32} {i j n p : Nat} {y : Int32} (h : (cpV V1 V2 i j n)[p]? = some y) : p < V2.length ∧ y = if j ≤ p ∧ p < j + n then V1.getD (i + (p - j)) 0 else V2.getD p 0 := by
  have hl := (List.getElem?_eq_some_iff.mp h).1
  rw [cpV_len] at hl
  unfold cpV at h
  rw [List.getElem?_map, List.getElem?_range hl] at h
  exact ⟨hl, (Option.some.inj h).symm⟩
def sCopy (x i y j n : Int32) (s1 s2 : Int32 × List Int32) : Int32 × List Int32 :=
  if ¬ ((0 ≤ x.toInt ∧ x.toInt ≤ 3) ∧ (0 ≤ y.toInt ∧ y.toInt ≤ 3)) then (-2, s2.2)
  else if s1.1.toInt = -1 ∨ s2.1.toInt = -1 then (-11, s2.2)
  else if ¬ s1.1.toInt = s2.1.toInt then (-13, s2.2)
  else if ¬ (0 ≤ n.toInt ∧ 0 ≤ i.toInt ∧ 0 ≤ j.toInt ∧ i.toInt + n.toInt ≤ s1.2.length ∧ j.toInt + n.toInt ≤ s2.2.length) then (-12, s2.2)
  else (n, cpV s1.2 s2.2 i.toInt.toNat j.toInt.toNat n.toInt.toNat)
section S99e
variable {E : GE} {d : Nat} {b : Nat → Nat} {v : Nat → Int32} {t : Int64} {f : Nat → Nat → Int32} {i1 i2 : Nat} {s1 s2 : Int32 × List Int32}
set_option maxRecDepth 20000 in
set_option maxHeartbeats 2000000 in
theorem c_X8_copy (hN : g_N E) (hS1 : MSh f i1 s1) (hS2 : MSh f i2 s2) (heq : i1 = i2 → s1 = s2) (x i y j n : Int32) (hx : shN x i1) (hy : shN y i2) : g_Ci E mX8_copy (d + 3) [.ref (b 0), .int x, .int i, .int y, .int j, .int n] (mW E b v t f) (fun z w => z = (sCopy x i y j n s1 s2).1 ∧ ∃ f', w = mW E b v t f' ∧ agF [55] f f' ∧ MSh f' i2 (s2.1, (sCopy x i y j n s1 s2).2) ∧ ∀ i' s', i' ≠ i2 → MSh f i' s' → MSh f' i' s') := by
  have hS10 := hS1
  have hS20 := hS2
  obtain ⟨a1, a2, a3, a4, a5⟩ := hS1
  obtain ⟨c1, c2, c3, c4, c5⟩ := hS2
  refine g_enterI hN.1 (by decide) [some (.ref (b 0)), some (.int x), some (.int i), some (.int y), some (.int j), some (.int n), none, none, none] rfl (Nat.le_of_ble_eq_true rfl) (fun A Q hQ => ?_)
  have tcm13 := tc_m13; have tcm12 := tc_m12; have tcm11 := tc_m11; have tcm2 := tc_m2; have tc0 := tc_0; have tc1 := tc_1; have tc40 := tc_40
  have tc40 := tc_40
  unfold sCopy at hQ
  have stay : ∀ z : Int32, (sCopy x i y j n s1 s2) = (z, s2.2) → Q (some (.int z)) (mW E b v t f) := by
    intro z hz
    unfold sCopy at hz
    rw [hz] at hQ
    exact hQ _ _ ⟨rfl, f, rfl, agF.rf, hS20, fun _ _ _ h => h⟩
  have main : (0 ≤ x.toInt ∧ x.toInt ≤ 3) → (0 ≤ y.toInt ∧ y.toInt ≤ 3) → ¬ s1.1.toInt = -1 → ¬ s2.1.toInt = -1 → s1.1.toInt = s2.1.toInt → (0 ≤ n.toInt ∧ 0 ≤ i.toInt ∧ 0 ≤ j.toInt ∧ i.toInt + n.toInt ≤ s1.2.length ∧ j.toInt + n.toInt ≤ s2.2.length) → G E mX8_copy (d + 3) 0 0 A Q 0 0 100 [some (.ref (b 0)), some (.int x), some (.int i), some (.int y), some (.int j), some (.int n), none, none, none] [] (mW E b v t f) := by
    intro h1 h2 h3 h4 h5 h6
    rw [if_neg (fun q => q ⟨h1, h2⟩), if_neg (by omega), if_neg (fun q => q h5), if_neg (fun q => q h6)] at hQ
    clear stay
    obtain ⟨-, -, -, a6⟩ := a5 h3
    obtain ⟨e1, e2, e3, c6⟩ := c5 h4
    have hxi := hx h1
    have hyi := hy h2
    have ex : x = nI i1 := by rw [← hxi]; exact t_of h1.1
    have ey : y = nI i2 := by rw [← hyi]; exact t_of h2.1
    have ei : i = nI i.toInt.toNat := t_of (by omega)
    have ej : j = nI j.toInt.toNat := t_of (by omega)
    have en : n = nI n.toInt.toNat := t_of (by omega)
    generalize hI : i.toInt.toNat = I at *
    generalize hJ : j.toInt.toNat = J at *
    generalize hNn : n.toInt.toNat = N at *
    have hI2 : i.toInt = I := by omega
    have hJ2 : j.toInt = J := by omega
    have hN2 : n.toInt = N := by omega
    have tx := t_nI (n := i1) (by omega)
    have ty := t_nI (n := i2) (by omega)
    have hlen := cpV_len s1.2 s2.2 I J N
    have fin : ∀ f2, agF [55] f f2 → (∀ q, q < N → f2 55 (40 * i2 + (J + q)) = f 55 (40 * i1 + (I + q))) → (∀ p, ¬ (40 * i2 + J ≤ p ∧ p < 40 * i2 + J + N) → f2 55 p = f 55 p) → Q (some (.int n)) (mW E b v t f2) := by
      intro f2 g1 g2 g3
      refine hQ _ _ ⟨rfl, f2, rfl, g1, ⟨c1, by dsimp only; omega, c3, fun q => absurd q h4, fun _ => ⟨by rw [g1.at 52 rfl]; exact e1, by rw [g1.at 53 rfl]; exact e2, by rw [g1.at 54 rfl]; dsimp only; rw [hlen]; exact e3, ?_⟩⟩, ?_⟩
      · intro p w hp
        dsimp only at hp
        obtain ⟨k1, k2⟩ := cpV_get hp
        rw [k2]
        by_cases hr : J ≤ p ∧ p < J + N
        · rw [if_pos hr]
          have := g2 (p - J) (by omega)
          rw [show J + (p - J) = p by omega] at this
          rw [this]
          exact a6 _ _ (getD_ai (by omega))
        · rw [if_neg hr, g3 _ (by omega)]
          exact c6 _ _ (getD_ai (by omega))
      · intro i' s' hne hh
        obtain ⟨q1, q2, q3, q4, q5⟩ := hh
        refine ⟨q1, q2, q3, fun q => by rw [g1.at 52 rfl]; exact q4 q, fun q => ?_⟩
        obtain ⟨z1, z2, z3, z4⟩ := q5 q
        refine ⟨by rw [g1.at 52 rfl]; exact z1, by rw [g1.at 53 rfl]; exact z2, by rw [g1.at 54 rfl]; exact z3, fun p w hp => ?_⟩
        have hpl := (List.getElem?_eq_some_iff.mp hp).1
        rw [g3 _ (by omega)]
        exact z4 p w hp
    have srcI : ∀ q, q < N → (40 * x + i + nI q).toInt = ((40 * i1 + (I + q) : Nat) : Int) := by
      intro q hq
      have : (40 : Int32) * nI i1 = nI (40 * i1) := by rw [← pk_mul]; rfl
      rw [ex, ei, this, nI_add, nI_add, t_nI (by omega)]
      omega
    have dstI : ∀ q, q < N → (40 * y + j + nI q).toInt = ((40 * i2 + (J + q) : Nat) : Int) := by
      intro q hq
      have : (40 : Int32) * nI i2 = nI (40 * i2) := by rw [← pk_mul]; rfl
      rw [ey, ej, this, nI_add, nI_add, t_nI (by omega)]
      omega
    -- upwards
    have up : i1 = i2 → I < J → ∀ u k f2 (l8 : Option Value), k + u = N → agF [55] f f2 → (∀ q, q < N → N ≤ q + k → f2 55 (40 * i2 + (J + q)) = f 55 (40 * i1 + (I + q))) → (∀ p, ¬ (40 * i2 + J + (N - k) ≤ p ∧ p < 40 * i2 + J + N) → f2 55 p = f 55 p) → G E mX8_copy (d + 3) 0 0 A Q 0 0 121 [some (.ref (b 0)), some (.int x), some (.int i), some (.int y), some (.int j), some (.int n), some (.int 1), some (.int (nI k)), l8] [] (mW E b v t f2) := by
      intro hii hIJ u
      induction u with
      | zero =>
        intro k f2 l8 hk g1 g2 g3
        have ek := t_nI (n := k) (by omega)
        refine g_iload7 dX8_copy_121 (g_iload5 dX8_copy_123 (g_icmp_ge (tgt := 182) dX8_copy_125 (by decide) (fun h125 => g_iload5 dX8_copy_182 (g_iret rfl dX8_copy_184 (Nat.le_of_ble_eq_true rfl) (Nat.le_of_ble_eq_true rfl) ?q184)) (fun h125 => ?s128)))
        case s128 => omega
        case q184 => exact fin f2 g1 (fun q hq => g2 q hq (by omega)) (fun p hp => g3 p (by omega))
      | succ u ih =>
        intro k f2 l8 hk g1 g2 g3
        have ek := t_nI (n := k) (by omega)
        have eq : n - 1 - nI k = nI (N - 1 - k) := by
          rw [en, show (1 : Int32) = nI 1 from rfl, pk_sub (by omega), pk_sub (by omega)]
        have hs := srcI (N - 1 - k) (by omega)
        have hd := dstI (N - 1 - k) (by omega)
        refine g_iload7 dX8_copy_121 (g_iload5 dX8_copy_123 (g_icmp_ge (tgt := 182) dX8_copy_125 (by decide) (fun h125 => ?s182_2) (fun h125 => g_iload6 dX8_copy_128 (g_if_eq (tgt := 143) dX8_copy_130 (by decide) (fun h130 => ?s143_2) (fun h130 => g_iload5 dX8_copy_133 (g_iconst ki_1 dX8_copy_135 (g_isub dX8_copy_136 (g_iload7 dX8_copy_137 (g_isub dX8_copy_139 (g_goto (tgt := 145) dX8_copy_140 (by decide) (g_istore8 dX8_copy_145 rfl rfl (g_aload0 dX8_copy_147 (g_mget fl_X8_93 mg_55 dX8_copy_148 (g_bipush kb_40 dX8_copy_151 (g_iload3 dX8_copy_153 (g_imul dX8_copy_154 (g_iload4 dX8_copy_155 (g_iadd dX8_copy_157 (g_iload8 dX8_copy_158 (g_iadd dX8_copy_160 (g_aload0 dX8_copy_161 (g_mget fl_X8_93 mg_55 dX8_copy_162 (g_bipush kb_40 dX8_copy_165 (g_iload1 dX8_copy_167 (g_imul dX8_copy_168 (g_iload2 dX8_copy_169 (g_iadd dX8_copy_170 (g_iload8 dX8_copy_171 (g_iadd dX8_copy_173 (g_mia ma_55 dX8_copy_174 ?b174_2 (g_mis ma_55 mas_55 dX8_copy_175 ?b175_2 (g_iinc7 ki_1 dX8_copy_176 rfl rfl (g_goto (tgt := 121) dX8_copy_179 (by decide) (?s121_2))))))))))))))))))))))))))))))))))
        case s182_2 => omega
        case s143_2 => omega
        case b174_2 => rw [eq, hs]; show _ ∧ _ < (160 : Int); omega
        case b175_2 => rw [eq, hd]; show _ ∧ _ < (160 : Int); omega
        case s121_2 =>
          rw [eq, hs, hd, Int.toNat_natCast, Int.toNat_natCast, nI_1, g3 (40 * i1 + (I + (N - 1 - k))) (by omega)]
          refine ih (k + 1) _ _ (by omega) (g1.up 55 _ rfl) ?_ ?_
          · intro q h7 h8
            rw [updA_s]
            by_cases hq : q = N - 1 - k
            · rw [hq, upd_s]
            · rw [upd_o (by omega)]; exact g2 q h7 (by omega)
          · intro p hp
            rw [updA_s, upd_o (by omega)]; exact g3 p (by omega)
    have dn : ¬ (i1 = i2 ∧ I < J) → ∀ u k f2 (l8 : Option Value), k + u = N → agF [55] f f2 → (∀ q, q < k → f2 55 (40 * i2 + (J + q)) = f 55 (40 * i1 + (I + q))) → (∀ p, ¬ (40 * i2 + J ≤ p ∧ p < 40 * i2 + J + k) → f2 55 p = f 55 p) → G E mX8_copy (d + 3) 0 0 A Q 0 0 121 [some (.ref (b 0)), some (.int x), some (.int i), some (.int y), some (.int j), some (.int n), some (.int 0), some (.int (nI k)), l8] [] (mW E b v t f2) := by
      intro hne u
      induction u with
      | zero =>
        intro k f2 l8 hk g1 g2 g3
        have ek := t_nI (n := k) (by omega)
        refine g_iload7 dX8_copy_121 (g_iload5 dX8_copy_123 (g_icmp_ge (tgt := 182) dX8_copy_125 (by decide) (fun h125 => g_iload5 dX8_copy_182 (g_iret rfl dX8_copy_184 (Nat.le_of_ble_eq_true rfl) (Nat.le_of_ble_eq_true rfl) ?q184_3)) (fun h125 => ?s128_3)))
        case s128_3 => omega
        case q184_3 => exact fin f2 g1 (fun q hq => g2 q (by omega)) (fun p hp => g3 p (by omega))
      | succ u ih =>
        intro k f2 l8 hk g1 g2 g3
        have ek := t_nI (n := k) (by omega)
        have hs := srcI k (by omega)
        have hd := dstI k (by omega)
        refine g_iload7 dX8_copy_121 (g_iload5 dX8_copy_123 (g_icmp_ge (tgt := 182) dX8_copy_125 (by decide) (fun h125 => ?s182_4) (fun h125 => g_iload6 dX8_copy_128 (g_if_eq (tgt := 143) dX8_copy_130 (by decide) (fun h130 => g_iload7 dX8_copy_143 (g_istore8 dX8_copy_145 rfl rfl (g_aload0 dX8_copy_147 (g_mget fl_X8_93 mg_55 dX8_copy_148 (g_bipush kb_40 dX8_copy_151 (g_iload3 dX8_copy_153 (g_imul dX8_copy_154 (g_iload4 dX8_copy_155 (g_iadd dX8_copy_157 (g_iload8 dX8_copy_158 (g_iadd dX8_copy_160 (g_aload0 dX8_copy_161 (g_mget fl_X8_93 mg_55 dX8_copy_162 (g_bipush kb_40 dX8_copy_165 (g_iload1 dX8_copy_167 (g_imul dX8_copy_168 (g_iload2 dX8_copy_169 (g_iadd dX8_copy_170 (g_iload8 dX8_copy_171 (g_iadd dX8_copy_173 (g_mia ma_55 dX8_copy_174 ?b174_4 (g_mis ma_55 mas_55 dX8_copy_175 ?b175_4 (g_iinc7 ki_1 dX8_copy_176 rfl rfl (g_goto (tgt := 121) dX8_copy_179 (by decide) (?s121_4))))))))))))))))))))))))) (fun h130 => ?s133_4)))))
        case s182_4 => omega
        case s133_4 => omega
        case b174_4 => rw [hs]; show _ ∧ _ < (160 : Int); omega
        case b175_4 => rw [hd]; show _ ∧ _ < (160 : Int); omega
        case s121_4 =>
          rw [hs, hd, Int.toNat_natCast, Int.toNat_natCast, nI_1, g3 (40 * i1 + (I + k)) (by omega)]
          refine ih (k + 1) _ _ (by omega) (g1.up 55 _ rfl) ?_ ?_
          · intro q h7
            rw [updA_s]
            by_cases hq : q = k
            · rw [hq, upd_s]
            · rw [upd_o (by omega)]; exact g2 q (by omega)
          · intro p hp
            rw [updA_s, upd_o (by omega)]; exact g3 p (by omega)
    have exy : x.toInt = i1 := by rw [ex, tx]
    have eyy : y.toInt = i2 := by rw [ey, ty]
    refine g_iload1 dX8_copy_100 (g_iload3 dX8_copy_101 (g_icmp_ne (tgt := 115) dX8_copy_102 (by decide) (fun h102 => g_iconst ki_0 dX8_copy_115 (g_istore6 dX8_copy_116 rfl rfl (g_iconst ki_0 dX8_copy_118 (g_istore7 dX8_copy_119 rfl rfl (?s121_5))))) (fun h102 => g_iload2 dX8_copy_105 (g_iload4 dX8_copy_106 (g_icmp_ge (tgt := 115) dX8_copy_108 (by decide) (fun h108 => g_iconst ki_0 dX8_copy_115 (g_istore6 dX8_copy_116 rfl rfl (g_iconst ki_0 dX8_copy_118 (g_istore7 dX8_copy_119 rfl rfl (?s121_5'))))) (fun h108 => g_iconst ki_1 dX8_copy_111 (g_goto (tgt := 116) dX8_copy_112 (by decide) (g_istore6 dX8_copy_116 rfl rfl (g_iconst ki_0 dX8_copy_118 (g_istore7 dX8_copy_119 rfl rfl (?s121_5'')))))))))))
    case s121_5 => exact dn (by omega) N 0 f _ (by omega) agF.rf (fun q hq => absurd hq (Nat.not_lt_zero q)) (fun p _ => rfl)
    case s121_5' => exact dn (by omega) N 0 f _ (by omega) agF.rf (fun q hq => absurd hq (Nat.not_lt_zero q)) (fun p _ => rfl)
    case s121_5'' => exact up (by omega) (by omega) N 0 f _ (by omega) agF.rf (fun q _ hq => by omega) (fun p _ => rfl)
  refine g_iload1 dX8_copy_0 (r_X8_isSheet hN mv_X8_300 dX8_copy_1 (Nat.le_of_ble_eq_true rfl) (Nat.le_of_ble_eq_true rfl) rfl (g_if_eq (tgt := 14) dX8_copy_4 (by decide) (fun h4 => g_bipush kb_m2 dX8_copy_14 (g_iret rfl dX8_copy_16 (Nat.le_of_ble_eq_true rfl) (Nat.le_of_ble_eq_true rfl) ?q16_6)) (fun h4 => g_iload3 dX8_copy_7 (r_X8_isSheet hN mv_X8_300 dX8_copy_8 (Nat.le_of_ble_eq_true rfl) (Nat.le_of_ble_eq_true rfl) rfl (g_if_ne (tgt := 17) dX8_copy_11 (by decide) (fun h11 => ?s17_6) (fun h11 => g_bipush kb_m2 dX8_copy_14 (g_iret rfl dX8_copy_16 (Nat.le_of_ble_eq_true rfl) (Nat.le_of_ble_eq_true rfl) ?q16_6')))))))
  all_goals try simp only [g_biz, Int32.toInt_toInt64, tl_m4611686018427387904, tl_m1, tl_0, tl_1, tl_2, tl_3, tl_4, tl_5, tl_9, tl_10, tl_20, tl_40, tl_43, tl_48, tl_57, tl_60, tl_97, tl_99, tl_122, tl_255] at *
  case q16_6 => exact stay _ (by unfold sCopy; rw [if_pos (by omega)])
  case q16_6' => exact stay _ (by unfold sCopy; rw [if_pos (by omega)])
  case s17_6 =>
    have h1 : (0 ≤ x.toInt ∧ x.toInt ≤ 3) ∧ (0 ≤ y.toInt ∧ y.toInt ≤ 3) := by omega
    have hxi := hx h1.1
    have hyi := hy h1.2
    have ex := t_of h1.1.1
    have ey := t_of h1.2.1
    rw [hxi] at ex
    rw [hyi] at ey
    have tx := t_nI (n := i1) (by omega)
    have ty := t_nI (n := i2) (by omega)
    have q11 : s1.1.toInt = -1 ∨ s2.1.toInt = -1 → Q (some (.int (-11))) (mW E b v t f) := fun h => stay _ (by unfold sCopy; rw [if_neg (fun q => q h1), if_pos h])
    have f1 : (s1.1.toInt = -1 → (f 52 i1).toInt = 0) ∧ (¬ s1.1.toInt = -1 → (f 52 i1).toInt = 1 ∧ f 53 i1 = s1.1 ∧ (f 54 i1).toInt = s1.2.length) := by
      refine ⟨fun h => by rw [a4 h]; decide, fun h => ?_⟩
      obtain ⟨z1, z2, z3, -⟩ := a5 h
      exact ⟨by rw [z1]; decide, z2, by rw [z3, t_nI (by omega)]⟩
    have f2' : (s2.1.toInt = -1 → (f 52 i2).toInt = 0) ∧ (¬ s2.1.toInt = -1 → (f 52 i2).toInt = 1 ∧ f 53 i2 = s2.1 ∧ (f 54 i2).toInt = s2.2.length) := by
      refine ⟨fun h => by rw [c4 h]; decide, fun h => ?_⟩
      obtain ⟨z1, z2, z3, -⟩ := c5 h
      exact ⟨by rw [z1]; decide, z2, by rw [z3, t_nI (by omega)]⟩
    by_cases hm1 : s1.1.toInt = -1
    · have := f1.1 hm1
      have hq := q11 (Or.inl hm1)
      clear main stay
      subst ex
      refine g_aload0 dX8_copy_17 (g_mget fl_X8_83 mg_52 dX8_copy_18 (g_iload1 dX8_copy_21 (g_mba ma_52 dX8_copy_22 ?b22_7 (g_if_eq (tgt := 35) dX8_copy_23 (by decide) (fun h23 => g_bipush kb_m11 dX8_copy_35 (g_iret rfl dX8_copy_37 (Nat.le_of_ble_eq_true rfl) (Nat.le_of_ble_eq_true rfl) ?q37_7)) (fun h23 => ?s26_7)))))
      all_goals try rw [tx, Int.toNat_natCast] at h23
      case b22_7 => show _ ∧ _ < (4 : Int); omega
      case s26_7 => omega
      case q37_7 => exact hq
    · obtain ⟨k1, k2, k3⟩ := f1.2 hm1
      by_cases hm2 : s2.1.toInt = -1
      · have := f2'.1 hm2
        have hq := q11 (Or.inr hm2)
        clear main stay
        subst ex ey
        refine g_aload0 dX8_copy_17 (g_mget fl_X8_83 mg_52 dX8_copy_18 (g_iload1 dX8_copy_21 (g_mba ma_52 dX8_copy_22 ?b22_8 (g_if_eq (tgt := 35) dX8_copy_23 (by decide) (fun h23 => g_bipush kb_m11 dX8_copy_35 (g_iret rfl dX8_copy_37 (Nat.le_of_ble_eq_true rfl) (Nat.le_of_ble_eq_true rfl) ?q37_8)) (fun h23 => g_aload0 dX8_copy_26 (g_mget fl_X8_83 mg_52 dX8_copy_27 (g_iload3 dX8_copy_30 (g_mba ma_52 dX8_copy_31 ?b31_8 (g_if_ne (tgt := 38) dX8_copy_32 (by decide) (fun h32 => ?s38_8) (fun h32 => g_bipush kb_m11 dX8_copy_35 (g_iret rfl dX8_copy_37 (Nat.le_of_ble_eq_true rfl) (Nat.le_of_ble_eq_true rfl) ?q37_8')))))))))))
        all_goals try rw [tx, Int.toNat_natCast] at h23
        all_goals try rw [ty, Int.toNat_natCast] at h32
        case b22_8 => show _ ∧ _ < (4 : Int); omega
        case b31_8 => show _ ∧ _ < (4 : Int); omega
        case s38_8 => omega
        case q37_8 => omega
        case q37_8' => exact hq
      · obtain ⟨m1, m2, m3⟩ := f2'.2 hm2
        have q13 : ¬ s1.1.toInt = s2.1.toInt → Q (some (.int (-13))) (mW E b v t f) := fun h => stay _ (by unfold sCopy; rw [if_neg (fun q => q h1), if_neg (by omega), if_pos h])
        have q12 : s1.1.toInt = s2.1.toInt → ¬ (0 ≤ n.toInt ∧ 0 ≤ i.toInt ∧ 0 ≤ j.toInt ∧ i.toInt + n.toInt ≤ s1.2.length ∧ j.toInt + n.toInt ≤ s2.2.length) → Q (some (.int (-12))) (mW E b v t f) := fun h h' => stay _ (by unfold sCopy; rw [if_neg (fun q => q h1), if_neg (by omega), if_neg (fun q => q h), if_pos h'])
        have mn := main h1.1 h1.2 hm1 hm2
        clear main stay
        subst ex ey
        have hsub : 0 ≤ n.toInt → (f 54 i1 - n).toInt = (s1.2.length : Int) - n.toInt ∧ (f 54 i2 - n).toInt = (s2.2.length : Int) - n.toInt := by
          intro hn0
          have := t_hi n
          exact ⟨by rw [t_sub (by omega) (by omega), k3], by rw [t_sub (by omega) (by omega), m3]⟩
        refine g_aload0 dX8_copy_17 (g_mget fl_X8_83 mg_52 dX8_copy_18 (g_iload1 dX8_copy_21 (g_mba ma_52 dX8_copy_22 ?b22_9 (g_if_eq (tgt := 35) dX8_copy_23 (by decide) (fun h23 => g_bipush kb_m11 dX8_copy_35 (g_iret rfl dX8_copy_37 (Nat.le_of_ble_eq_true rfl) (Nat.le_of_ble_eq_true rfl) ?q37_9)) (fun h23 => g_aload0 dX8_copy_26 (g_mget fl_X8_83 mg_52 dX8_copy_27 (g_iload3 dX8_copy_30 (g_mba ma_52 dX8_copy_31 ?b31_9 (g_if_ne (tgt := 38) dX8_copy_32 (by decide) (fun h32 => g_aload0 dX8_copy_38 (g_mget fl_X8_87 mg_53 dX8_copy_39 (g_iload1 dX8_copy_42 (g_mia ma_53 dX8_copy_43 ?b43_9 (g_aload0 dX8_copy_44 (g_mget fl_X8_87 mg_53 dX8_copy_45 (g_iload3 dX8_copy_48 (g_mia ma_53 dX8_copy_49 ?b49_9 (g_icmp_eq (tgt := 56) dX8_copy_50 (by decide) (fun h50 => ?s56_9) (fun h50 => g_bipush kb_m13 dX8_copy_53 (g_iret rfl dX8_copy_55 (Nat.le_of_ble_eq_true rfl) (Nat.le_of_ble_eq_true rfl) ?q55_9))))))))))) (fun h32 => g_bipush kb_m11 dX8_copy_35 (g_iret rfl dX8_copy_37 (Nat.le_of_ble_eq_true rfl) (Nat.le_of_ble_eq_true rfl) ?q37_9')))))))))))
        all_goals try rw [tx, Int.toNat_natCast] at h23
        all_goals try rw [ty, Int.toNat_natCast] at h32
        all_goals try rw [tx, ty, Int.toNat_natCast, Int.toNat_natCast, k2, m2] at h50
        case b22_9 => show _ ∧ _ < (4 : Int); omega
        case b31_9 => show _ ∧ _ < (4 : Int); omega
        case b43_9 => show _ ∧ _ < (4 : Int); omega
        case b49_9 => show _ ∧ _ < (4 : Int); omega
        case q37_9 => omega
        case q37_9' => omega
        case q55_9 => exact q13 h50
        case s56_9 =>
          refine g_iload5 dX8_copy_56 (g_if_lt (tgt := 97) dX8_copy_58 (by decide) (fun h58 => g_bipush kb_m12 dX8_copy_97 (g_iret rfl dX8_copy_99 (Nat.le_of_ble_eq_true rfl) (Nat.le_of_ble_eq_true rfl) ?q99_10)) (fun h58 => g_iload2 dX8_copy_61 (g_if_lt (tgt := 97) dX8_copy_62 (by decide) (fun h62 => g_bipush kb_m12 dX8_copy_97 (g_iret rfl dX8_copy_99 (Nat.le_of_ble_eq_true rfl) (Nat.le_of_ble_eq_true rfl) ?q99_10')) (fun h62 => g_iload4 dX8_copy_65 (g_if_lt (tgt := 97) dX8_copy_67 (by decide) (fun h67 => g_bipush kb_m12 dX8_copy_97 (g_iret rfl dX8_copy_99 (Nat.le_of_ble_eq_true rfl) (Nat.le_of_ble_eq_true rfl) ?q99_10'')) (fun h67 => g_iload2 dX8_copy_70 (g_aload0 dX8_copy_71 (g_mget fl_X8_90 mg_54 dX8_copy_72 (g_iload1 dX8_copy_75 (g_mia ma_54 dX8_copy_76 ?b76_10 (g_iload5 dX8_copy_77 (g_isub dX8_copy_79 (g_icmp_gt (tgt := 97) dX8_copy_80 (by decide) (fun h80 => g_bipush kb_m12 dX8_copy_97 (g_iret rfl dX8_copy_99 (Nat.le_of_ble_eq_true rfl) (Nat.le_of_ble_eq_true rfl) ?q99_10''')) (fun h80 => g_iload4 dX8_copy_83 (g_aload0 dX8_copy_85 (g_mget fl_X8_90 mg_54 dX8_copy_86 (g_iload3 dX8_copy_89 (g_mia ma_54 dX8_copy_90 ?b90_10 (g_iload5 dX8_copy_91 (g_isub dX8_copy_93 (g_icmp_le (tgt := 100) dX8_copy_94 (by decide) (fun h94 => ?s100_10) (fun h94 => g_bipush kb_m12 dX8_copy_97 (g_iret rfl dX8_copy_99 (Nat.le_of_ble_eq_true rfl) (Nat.le_of_ble_eq_true rfl) ?q99_10'''')))))))))))))))))))))))
          all_goals try rw [tx, Int.toNat_natCast] at h80
          all_goals try rw [ty, Int.toNat_natCast] at h94
          case b76_10 => show _ ∧ _ < (4 : Int); omega
          case b90_10 => show _ ∧ _ < (4 : Int); omega
          case s100_10 => exact mn h50 (by have := hsub (by omega); omega)
          all_goals exact q12 h50 (by have := hsub; omega)
end S99e
