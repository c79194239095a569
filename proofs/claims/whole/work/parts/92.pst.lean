/-! the model: posts -/
def rtN (R : Nat → Bool) : Nat → Nat
  | 0 => 0
  | t + 1 => rtN R t + (if R t = true then 1 else 0)
def wdN (R : Nat → Bool) : Nat → Nat
  | 0 => 0
  | t + 1 => wdN R t + (if R t = true then 0 else rtN R t)
def cnR (R : Nat → Bool) (p : Nat) : Nat → Nat
  | 0 => 0
  | m + 1 => cnR R p m + (if p < m ∧ R m = false then 1 else 0)
def gSm (R : Nat → Bool) (m : Nat) : Nat → Nat
  | 0 => 0
  | k + 1 => gSm R m k + (if R k = true then cnR R k m else 0)
theorem cnR_0 (R : Nat → Bool) (p : Nat) : ∀ m, m ≤ p + 1 → cnR R p m = 0
  | 0, _ => rfl
  | m + 1, h => by rw [cnR, cnR_0 R p m (by omega), if_neg (by omega)]
theorem gSm_s (R : Nat → Bool) (m : Nat) : ∀ k, k ≤ m → gSm R (m + 1) k = gSm R m k + (if R m = true then 0 else rtN R k)
  | 0, _ => by cases R m <;> rfl
  | k + 1, h => by
    rw [gSm, gSm, gSm_s R m k (by omega), rtN, cnR]
    cases hm : R m with
    | true => simp
    | false =>
      rw [if_pos (show k < m ∧ false = false from ⟨by omega, rfl⟩)]
      cases R k <;> simp <;> omega
theorem gSm_wd (R : Nat → Bool) : ∀ m, gSm R m m = wdN R m
  | 0 => rfl
  | m + 1 => by
    rw [gSm, gSm_s R m m (Nat.le_refl _), gSm_wd R m, cnR_0 R m (m + 1) (by omega), wdN]
    cases R m <;> simp
theorem rtN_le (R : Nat → Bool) : ∀ t, rtN R t ≤ t
  | 0 => Nat.le_refl _
  | t + 1 => by have := rtN_le R t; rw [rtN]; split <;> omega
theorem wnd_nI (D : Dg) (s : Nat) : ∀ t, wndF D s t = (nI (wdN (rgB D s) t), nI (rtN (rgB D s) t))
  | 0 => rfl
  | t + 1 => by
    rw [wndF, wnd_nI D s t, wdN, rtN]
    cases rgB D s t with
    | true => simp [nI_1]
    | false => simp [nI_add]
theorem cnR_le (R : Nat → Bool) (p : Nat) : ∀ m, cnR R p m ≤ m
  | 0 => Nat.le_refl _
  | m + 1 => by have := cnR_le R p m; rw [cnR]; split <;> omega
theorem gSm_le (R : Nat → Bool) (m : Nat) : ∀ k, gSm R m k ≤ k * m
  | 0 => by rw [gSm]; omega
  | k + 1 => by
    have h1 := gSm_le R m k
    have h2 := cnR_le R k m
    rw [gSm, Nat.succ_mul]
    split <;> omega
section S92
variable {E : GE} {d : Nat} {b : Nat → Nat} {v : Nat → Int32} {t : Int64} {f : Nat → Nat → Int32} {D : Dg}
theorem m_right (hN : g_N E) (hD : dgOK D) (hM : MD v f D) {q s : Nat} (hq : q < D.1.length) (hs : s ≤ D.1.length) : g_Ci E mX8_right (d + 1) [.ref (b 0), .int (nI (D.2.2.2.2.getD q 0)), .int (nI q), .int (nI s)] (mW E b v t f) (fun z w => z = g_bi (rgB D s q = true) ∧ w = mW E b v t f) := by
  obtain ⟨hn, l1, l2, l3, l4, b1, b2, b3, b4, b5, hnd⟩ := id hD
  have g1 := getD_at (l := D.2.2.2.2) (i := q) (by omega)
  have hx := b5 _ (List.mem_of_getElem? g1)
  exact c_X8_right hN hD hM (getD_at (by omega)) (getD_at (by omega)) (by omega) (by omega)
theorem m_pulls (hN : g_N E) (hD : dgOK D) (hM : MD v f D) {q : Nat} (hq : q < D.1.length) : g_Ci E mX8_pulls (d + 1) [.ref (b 0), .int (nI (D.2.2.2.2.getD q 0)), .int (nI q)] (mW E b v t f) (fun z w => z.toInt = puI D q ∧ w = mW E b v t f) := by
  obtain ⟨hn, l1, l2, l3, l4, b1, b2, b3, b4, b5, hnd⟩ := id hD
  have g1 := getD_at (l := D.2.2.2.2) (i := q) (by omega)
  have hx := b5 _ (List.mem_of_getElem? g1)
  exact c_X8_pulls hN hD hM (getD_at (by omega)) (getD_at (by omega)) (getD_at (by omega)) (by omega)
set_option maxRecDepth 20000 in
set_option maxHeartbeats 4000000 in
theorem c_X8_rightOf (hN : g_N E) (hD : dgOK D) (hM : MD v f D) {s : Nat} (hs : s ≤ D.1.length) : g_Ci E mX8_rightOf (d + 2) [.ref (b 0), .int (nI s)] (mW E b v t f) (fun z w => z = dorF D s D.1.length ∧ w = mW E b v t f) := by
  obtain ⟨n0, n1, n2⟩ := hM.n1 hD.1
  have hn := hD.1
  have l4 := hD.2.2.2.2.1
  refine g_enterI hN.1 (by decide) [some (.ref (b 0)), some (.int (nI s)), none, none] rfl (Nat.le_of_ble_eq_true rfl) (fun A Q hQ => ?_)
  have tc0 := tc_0; have tc1 := tc_1
  have loop : ∀ u i, i + u = D.1.length → G E mX8_rightOf (d + 2) 0 0 A Q 0 0 4 [some (.ref (b 0)), some (.int (nI s)), some (.int (dorF D s i)), some (.int (nI i))] [] (mW E b v t f) := by
    intro u
    induction u with
    | zero =>
      intro i hi
      have ei := t_nI (n := i) (by omega)
      refine g_iload3 dX8_rightOf_4 (g_aload0 dX8_rightOf_5 (g_mget fl_X8_103 mg_12 dX8_rightOf_6 (g_icmp_ge (tgt := 48) dX8_rightOf_9 (by decide) (fun h9 => g_iload2 dX8_rightOf_48 (g_iret rfl dX8_rightOf_49 (Nat.le_of_ble_eq_true rfl) (Nat.le_of_ble_eq_true rfl) ?q49)) (fun h9 => ?s12))))
      case s12 => omega
      case q49 => exact hQ _ _ ⟨by rw [show i = D.1.length by omega], rfl⟩
    | succ u ih =>
      intro i hi
      have ei := t_nI (n := i) (by omega)
      have p1 := hM.2.2.2.2.2.at (getD_at (l := D.2.2.2.2) (i := i) (by omega))
      have hd : dorF D s (i + 1) = if rgB D s i = true then dorF D s i ||| (1 <<< (nI (D.2.2.2.2.getD i 0) &&& 31)) else dorF D s i := rfl
      have hz := g_biz (p := (rgB D s i = true))
      refine g_iload3 dX8_rightOf_4 (g_aload0 dX8_rightOf_5 (g_mget fl_X8_103 mg_12 dX8_rightOf_6 (g_icmp_ge (tgt := 48) dX8_rightOf_9 (by decide) (fun h9 => ?s48_2) (fun h9 => g_iload2 dX8_rightOf_12 (g_aload0 dX8_rightOf_13 (g_aload0 dX8_rightOf_14 (g_mget fl_X8_35 mg_11 dX8_rightOf_15 (g_iload3 dX8_rightOf_18 (g_mia ma_11 dX8_rightOf_19 ?b19_2 (g_iload3 dX8_rightOf_20 (g_iload1 dX8_rightOf_21 (?c22_2))))))))))))
      case s48_2 => omega
      case b19_2 => omega
      case c22_2 =>
        rw [ei, Int.toNat_natCast, p1]
        refine g_V3i dX8_rightOf_22 mv_X8_306 0 rfl rfl rfl (Nat.le_of_ble_eq_true rfl) (Nat.le_of_ble_eq_true rfl) (m_right (d := d) hN hD hM (q := i) (by omega) hs) (fun z1_ w1 hq => ?_)
        obtain ⟨rfl, rfl⟩ := hq
        refine g_if_eq (tgt := 32) dX8_rightOf_25 (by decide) (fun h25 => g_iconst ki_0 dX8_rightOf_32 (g_aload0 dX8_rightOf_33 (g_mget fl_X8_35 mg_11 dX8_rightOf_34 (g_iload3 dX8_rightOf_37 (g_mia ma_11 dX8_rightOf_38 ?b38_3 (g_ishl dX8_rightOf_39 (g_ior dX8_rightOf_40 (g_istore2 dX8_rightOf_41 rfl rfl (g_iinc3 ki_1 dX8_rightOf_42 rfl rfl (g_goto (tgt := 4) dX8_rightOf_45 (by decide) (?s4_3))))))))))) (fun h25 => g_iconst ki_1 dX8_rightOf_28 (g_goto (tgt := 33) dX8_rightOf_29 (by decide) (g_aload0 dX8_rightOf_33 (g_mget fl_X8_35 mg_11 dX8_rightOf_34 (g_iload3 dX8_rightOf_37 (g_mia ma_11 dX8_rightOf_38 ?b38_3' (g_ishl dX8_rightOf_39 (g_ior dX8_rightOf_40 (g_istore2 dX8_rightOf_41 rfl rfl (g_iinc3 ki_1 dX8_rightOf_42 rfl rfl (g_goto (tgt := 4) dX8_rightOf_45 (by decide) (?s4_3'))))))))))))
        case b38_3 => omega
        case b38_3' => omega
        case s4_3 =>
          rw [if_neg (hz.mp h25)] at hd
          rw [nI_1]
          have h0 : ∀ x y : Int32, y ||| ((0 : Int32) <<< x) = y := by
            intro x y
            rw [Int32.zero_shiftLeft, Int32.or_zero]
          rw [h0, ← hd]
          exact ih (i + 1) (by omega)
        case s4_3' =>
          have hr : rgB D s i = true := by
            by_cases q : rgB D s i = true
            · exact q
            · exact absurd (hz.mpr q) h25
          rw [if_pos hr] at hd
          rw [nI_1, ei, Int.toNat_natCast, p1, ← hd]
          exact ih (i + 1) (by omega)
  refine g_iconst ki_0 dX8_rightOf_0 (g_istore2 dX8_rightOf_1 rfl rfl (g_iconst ki_0 dX8_rightOf_2 (g_istore3 dX8_rightOf_3 rfl rfl (?s4_4))))
  exact loop D.1.length 0 (by omega)
set_option maxRecDepth 20000 in
set_option maxHeartbeats 4000000 in
theorem c_X8_wound (hN : g_N E) (hD : dgOK D) (hM : MD v f D) {s : Nat} (hs : s ≤ D.1.length) : g_Ci E mX8_wound (d + 2) [.ref (b 0), .int (nI s)] (mW E b v t f) (fun z w => z = (wndF D s D.1.length).1 ∧ w = mW E b v t f) := by
  obtain ⟨n0, n1, n2⟩ := hM.n1 hD.1
  have hn := hD.1
  have l4 := hD.2.2.2.2.1
  rw [wnd_nI, ← gSm_wd]
  refine g_enterI hN.1 (by decide) [some (.ref (b 0)), some (.int (nI s)), none, none, none] rfl (Nat.le_of_ble_eq_true rfl) (fun A Q hQ => ?_)
  have tc0 := tc_0; have tc1 := tc_1
  have outer : ∀ u i l4, i + u = D.1.length → G E mX8_wound (d + 2) 0 0 A Q 0 0 4 [some (.ref (b 0)), some (.int (nI s)), some (.int (nI (gSm (rgB D s) D.1.length i))), some (.int (nI i)), l4] [] (mW E b v t f) := by
    intro u
    induction u with
    | zero =>
      intro i l4 hi
      have ei := t_nI (n := i) (by omega)
      refine g_iload3 dX8_wound_4 (g_aload0 dX8_wound_5 (g_mget fl_X8_103 mg_12 dX8_wound_6 (g_icmp_ge (tgt := 78) dX8_wound_9 (by decide) (fun h9 => g_iload2 dX8_wound_78 (g_iret rfl dX8_wound_79 (Nat.le_of_ble_eq_true rfl) (Nat.le_of_ble_eq_true rfl) ?q79)) (fun h9 => ?s12))))
      case s12 => omega
      case q79 => exact hQ _ _ ⟨by rw [show i = D.1.length by omega], rfl⟩
    | succ u ih =>
      intro i l4 hi
      have ei := t_nI (n := i) (by omega)
      have p1 := hM.2.2.2.2.2.at (getD_at (l := D.2.2.2.2) (i := i) (by omega))
      have hgs : gSm (rgB D s) D.1.length (i + 1) = gSm (rgB D s) D.1.length i + (if rgB D s i = true then cnR (rgB D s) i D.1.length else 0) := rfl
      have hz := g_biz (p := (rgB D s i = true))
      have inner : ∀ w q, q + w = D.1.length → i < q → G E mX8_wound (d + 2) 0 0 A Q 0 0 17 [some (.ref (b 0)), some (.int (nI s)), some (.int (nI (gSm (rgB D s) D.1.length i + (if rgB D s i = true then cnR (rgB D s) i q else 0)))), some (.int (nI i)), some (.int (nI q))] [] (mW E b v t f) := by
        intro w
        induction w with
        | zero =>
          intro q hq hiq
          have eq := t_nI (n := q) (by omega)
          refine g_iload4 dX8_wound_17 (g_aload0 dX8_wound_19 (g_mget fl_X8_103 mg_12 dX8_wound_20 (g_icmp_ge (tgt := 72) dX8_wound_23 (by decide) (fun h23 => g_iinc3 ki_1 dX8_wound_72 rfl rfl (g_goto (tgt := 4) dX8_wound_75 (by decide) (?s4_2))) (fun h23 => ?s26_2))))
          case s26_2 => omega
          case s4_2 =>
            rw [nI_1, show q = D.1.length by omega, ← hgs]
            exact ih (i + 1) _ (by omega)
        | succ w ihw =>
          intro q hq hiq
          have eq := t_nI (n := q) (by omega)
          have p2 := hM.2.2.2.2.2.at (getD_at (l := D.2.2.2.2) (i := q) (by omega))
          have hcn : cnR (rgB D s) i (q + 1) = cnR (rgB D s) i q + (if i < q ∧ rgB D s q = false then 1 else 0) := rfl
          have hz2 := g_biz (p := (rgB D s q = true))
          have hnx := ihw (q + 1) (by omega) (by omega)
          rw [hcn] at hnx
          refine g_iload4 dX8_wound_17 (g_aload0 dX8_wound_19 (g_mget fl_X8_103 mg_12 dX8_wound_20 (g_icmp_ge (tgt := 72) dX8_wound_23 (by decide) (fun h23 => ?s72_3) (fun h23 => g_iload2 dX8_wound_26 (g_aload0 dX8_wound_27 (g_aload0 dX8_wound_28 (g_mget fl_X8_35 mg_11 dX8_wound_29 (g_iload3 dX8_wound_32 (g_mia ma_11 dX8_wound_33 ?b33_3 (g_iload3 dX8_wound_34 (g_iload1 dX8_wound_35 (?c36_3))))))))))))
          case s72_3 => omega
          case b33_3 => omega
          case c36_3 =>
            rw [ei, Int.toNat_natCast, p1]
            refine g_V3i dX8_wound_36 mv_X8_306 0 rfl rfl rfl (Nat.le_of_ble_eq_true rfl) (Nat.le_of_ble_eq_true rfl) (m_right (d := d) hN hD hM (q := i) (by omega) hs) (fun z1_ w1 hq => ?_)
            obtain ⟨rfl, rfl⟩ := hq
            refine g_if_eq (tgt := 63) dX8_wound_39 (by decide) (fun h39 => g_iconst ki_0 dX8_wound_63 (g_iadd dX8_wound_64 (g_istore2 dX8_wound_65 rfl rfl (g_iinc4 ki_1 dX8_wound_66 rfl rfl (g_goto (tgt := 17) dX8_wound_69 (by decide) (?s17_4)))))) (fun h39 => g_aload0 dX8_wound_42 (g_aload0 dX8_wound_43 (g_mget fl_X8_35 mg_11 dX8_wound_44 (g_iload4 dX8_wound_47 (g_mia ma_11 dX8_wound_49 ?b49_4 (g_iload4 dX8_wound_50 (g_iload1 dX8_wound_52 (?c53_4))))))))
            case s17_4 =>
              rw [if_neg (hz.mp h39)] at hnx ⊢
              rw [nI_1, Int32.add_zero]
              exact hnx
            case b49_4 => omega
            case c53_4 =>
              have hr : rgB D s i = true := by
                by_cases hh : rgB D s i = true
                · exact hh
                · exact absurd (hz.mpr hh) h39
              rw [if_pos hr] at hnx ⊢
              rw [eq, Int.toNat_natCast, p2]
              refine g_V3i dX8_wound_53 mv_X8_306 0 rfl rfl rfl (Nat.le_of_ble_eq_true rfl) (Nat.le_of_ble_eq_true rfl) (m_right (d := d) hN hD hM (q := q) (by omega) hs) (fun z2_ w1 hq => ?_)
              obtain ⟨rfl, rfl⟩ := hq
              refine g_if_ne (tgt := 63) dX8_wound_56 (by decide) (fun h56 => g_iconst ki_0 dX8_wound_63 (g_iadd dX8_wound_64 (g_istore2 dX8_wound_65 rfl rfl (g_iinc4 ki_1 dX8_wound_66 rfl rfl (g_goto (tgt := 17) dX8_wound_69 (by decide) (?s17_5)))))) (fun h56 => g_iconst ki_1 dX8_wound_59 (g_goto (tgt := 64) dX8_wound_60 (by decide) (g_iadd dX8_wound_64 (g_istore2 dX8_wound_65 rfl rfl (g_iinc4 ki_1 dX8_wound_66 rfl rfl (g_goto (tgt := 17) dX8_wound_69 (by decide) (?s17_5')))))))
              case s17_5 =>
                rw [if_neg (fun hh => h56 (hz2.mpr (by rw [hh.2]; decide)))] at hnx
                rw [nI_1, Int32.add_zero]
                exact hnx
              case s17_5' =>
                have hf : rgB D s q = false := by
                  cases hh : rgB D s q with
                  | false => rfl
                  | true => exact absurd hh (hz2.mp h56)
                rw [if_pos ⟨hiq, hf⟩] at hnx
                rw [nI_1, nI_1, Nat.add_assoc]
                exact hnx
      have h0 := inner (D.1.length - (i + 1)) (i + 1) (by omega) (by omega)
      rw [cnR_0 _ _ _ (Nat.le_refl _)] at h0
      refine g_iload3 dX8_wound_4 (g_aload0 dX8_wound_5 (g_mget fl_X8_103 mg_12 dX8_wound_6 (g_icmp_ge (tgt := 78) dX8_wound_9 (by decide) (fun h9 => ?s78_6) (fun h9 => g_iload3 dX8_wound_12 (g_iconst ki_1 dX8_wound_13 (g_iadd dX8_wound_14 (g_istore4 dX8_wound_15 rfl rfl (?s17_6))))))))
      case s78_6 => omega
      case s17_6 =>
        rw [nI_1]
        split at h0 <;> exact h0
  refine g_iconst ki_0 dX8_wound_0 (g_istore2 dX8_wound_1 rfl rfl (g_iconst ki_0 dX8_wound_2 (g_istore3 dX8_wound_3 rfl rfl (?s4_7))))
  exact outer D.1.length 0 _ (by omega)
set_option maxRecDepth 20000 in
set_option maxHeartbeats 4000000 in
theorem c_X8_post (hN : g_N E) (hD : dgOK D) (hM : MD v f D) (x k : Int32) : g_Ci E mX8_post (d + 3) [.ref (b 0), .int x, .int k] (mW E b v t f) (fun z w => z.toInt = sPost D x k ∧ w = mW E b v t f) := by
  obtain ⟨n0, n1, n2⟩ := hM.n1 hD.1
  have hn := hD.1
  have l4 := hD.2.2.2.2.1
  refine g_enterI hN.1 (by decide) [some (.ref (b 0)), some (.int x), some (.int k), none, none] rfl (Nat.le_of_ble_eq_true rfl) (fun A Q hQ => ?_)
  have tcm100000 := tc_m100000; have tc0 := tc_0; have tc1 := tc_1; have tc2 := tc_2
  unfold sPost at hQ
  refine g_iload1 dX8_post_0 (g_i2l dX8_post_1 (g_lconst kl_0 dX8_post_2 (g_aload0 dX8_post_3 (g_mget fl_X8_103 mg_12 dX8_post_4 (g_i2l dX8_post_7 (r_X8_in hN mv_X8_106 dX8_post_8 (Nat.le_of_ble_eq_true rfl) (Nat.le_of_ble_eq_true rfl) rfl (g_if_eq (tgt := 26) dX8_post_11 (by decide) (fun h11 => g_ldc_w kc_X8_269 dX8_post_26 (g_iret rfl dX8_post_29 (Nat.le_of_ble_eq_true rfl) (Nat.le_of_ble_eq_true rfl) ?q29)) (fun h11 => g_iload2 dX8_post_14 (g_i2l dX8_post_15 (g_lconst kl_0 dX8_post_16 (g_ldc2_w kj_X8_123 dX8_post_17 (r_X8_in hN mv_X8_106 dX8_post_20 (Nat.le_of_ble_eq_true rfl) (Nat.le_of_ble_eq_true rfl) rfl (g_if_ne (tgt := 30) dX8_post_23 (by decide) (fun h23 => g_iload2 dX8_post_30 (g_iconst ki_2 dX8_post_31 (g_icmp_ge (tgt := 53) dX8_post_32 (by decide) (fun h32 => ?s53) (fun h32 => g_iload2 dX8_post_35 (g_if_ne (tgt := 47) dX8_post_36 (by decide) (fun h36 => g_aload0 dX8_post_47 (g_iload1 dX8_post_48 (?c49))) (fun h36 => g_aload0 dX8_post_39 (g_iload1 dX8_post_40 (?c41)))))))) (fun h23 => g_ldc_w kc_X8_269 dX8_post_26 (g_iret rfl dX8_post_29 (Nat.le_of_ble_eq_true rfl) (Nat.le_of_ble_eq_true rfl) ?q29')))))))))))))))
  all_goals try simp only [g_biz, Int32.toInt_toInt64, tl_m4611686018427387904, tl_m1, tl_0, tl_1, tl_2, tl_3, tl_4, tl_5, tl_9, tl_10, tl_20, tl_40, tl_43, tl_48, tl_57, tl_60, tl_97, tl_99, tl_122, tl_255] at *
  case q29 => rw [if_pos (by omega)] at hQ; exact hQ _ _ ⟨tc_m100000, rfl⟩
  all_goals rw [if_neg (by omega)] at hQ
  case q29' => rw [if_neg (by omega), if_neg (by omega), if_neg (by omega)] at hQ; exact hQ _ _ ⟨tc_m100000, rfl⟩
  all_goals have hx : x = nI x.toInt.toNat := t_of (by omega)
  all_goals generalize hxx : x.toInt.toNat = xx at *
  all_goals subst hx
  case c49 =>
    rw [if_neg (by omega), if_pos (by omega)] at hQ
    refine g_V1i dX8_post_49 mv_X8_313 0 rfl rfl rfl (Nat.le_of_ble_eq_true rfl) (Nat.le_of_ble_eq_true rfl) (c_X8_wound (d := d) hN hD hM (by omega)) (fun z1_ w1 hq => ?_)
    obtain ⟨rfl, rfl⟩ := hq
    refine g_iret rfl dX8_post_52 (Nat.le_of_ble_eq_true rfl) (Nat.le_of_ble_eq_true rfl) ?q52_2
    exact hQ _ _ ⟨rfl, rfl⟩
  case c41 =>
    rw [if_pos (by omega)] at hQ
    refine g_V1i dX8_post_41 mv_X8_310 0 rfl rfl rfl (Nat.le_of_ble_eq_true rfl) (Nat.le_of_ble_eq_true rfl) (c_X8_rightOf (d := d) hN hD hM (by omega)) (fun z1_ w1 hq => ?_)
    obtain ⟨rfl, rfl⟩ := hq
    refine g_goto (tgt := 52) dX8_post_44 (by decide) (g_iret rfl dX8_post_52 (Nat.le_of_ble_eq_true rfl) (Nat.le_of_ble_eq_true rfl) ?q52_3)
    exact hQ _ _ ⟨rfl, rfl⟩
  case s53 =>
    rw [if_neg (by omega), if_neg (by omega), if_pos (by omega)] at hQ
    have hs : xx ≤ D.1.length := by omega
    have loop : ∀ u i (z : Int32), i + u = D.1.length → z.toInt = plgF D xx i → G E mX8_post (d + 3) 0 0 A Q 0 0 58 [some (.ref (b 0)), some (.int (nI xx)), some (.int k), some (.int z), some (.int (nI i))] [] (mW E b v t f) := by
      intro u
      induction u with
      | zero =>
        intro i z hi hz
        have ei := t_nI (n := i) (by omega)
        refine g_iload4 dX8_post_58 (g_aload0 dX8_post_60 (g_mget fl_X8_103 mg_12 dX8_post_61 (g_icmp_ge (tgt := 123) dX8_post_64 (by decide) (fun h64 => g_iload3 dX8_post_123 (g_iret rfl dX8_post_124 (Nat.le_of_ble_eq_true rfl) (Nat.le_of_ble_eq_true rfl) ?q124_4)) (fun h64 => ?s67_4))))
        case s67_4 => omega
        case q124_4 => exact hQ _ _ ⟨by rw [hz, show i = D.1.length by omega], rfl⟩
      | succ u ih =>
        intro i z hi hz
        have ei := t_nI (n := i) (by omega)
        have p1 := hM.2.2.2.2.2.at (getD_at (l := D.2.2.2.2) (i := i) (by omega))
        have hpb := plgF_b hD xx i (by omega)
        have hpu := puI_b hD (q := i) (by omega)
        have hpl : plgF D xx (i + 1) = plgF D xx i + (if rgB D xx i = true then puI D i else - puI D i) := rfl
        have hb := g_biz (p := (rgB D xx i = true))
        refine g_iload4 dX8_post_58 (g_aload0 dX8_post_60 (g_mget fl_X8_103 mg_12 dX8_post_61 (g_icmp_ge (tgt := 123) dX8_post_64 (by decide) (fun h64 => ?s123_5) (fun h64 => g_iload3 dX8_post_67 (g_aload0 dX8_post_68 (g_aload0 dX8_post_69 (g_mget fl_X8_35 mg_11 dX8_post_70 (g_iload4 dX8_post_73 (g_mia ma_11 dX8_post_75 ?b75_5 (g_iload4 dX8_post_76 (g_iload1 dX8_post_78 (?c79_5))))))))))))
        case s123_5 => omega
        case b75_5 => omega
        case c79_5 =>
          rw [ei, Int.toNat_natCast, p1]
          refine g_V3i dX8_post_79 mv_X8_306 0 rfl rfl rfl (Nat.le_of_ble_eq_true rfl) (Nat.le_of_ble_eq_true rfl) (m_right (d := d + 1) hN hD hM (q := i) (by omega) hs) (fun z1_ w1 hq => ?_)
          obtain ⟨rfl, rfl⟩ := hq
          refine g_if_eq (tgt := 101) dX8_post_82 (by decide) (fun h82 => g_aload0 dX8_post_101 (g_aload0 dX8_post_102 (g_mget fl_X8_35 mg_11 dX8_post_103 (g_iload4 dX8_post_106 (g_mia ma_11 dX8_post_108 ?b108_6 (g_iload4 dX8_post_109 (?c111_6))))))) (fun h82 => g_aload0 dX8_post_85 (g_aload0 dX8_post_86 (g_mget fl_X8_35 mg_11 dX8_post_87 (g_iload4 dX8_post_90 (g_mia ma_11 dX8_post_92 ?b92_6 (g_iload4 dX8_post_93 (?c95_6)))))))
          case b108_6 => omega
          case b92_6 => omega
          case c111_6 =>
            rw [ei, Int.toNat_natCast, p1]
            rw [if_neg (hb.mp h82)] at hpl
            refine g_V2i dX8_post_111 mv_X8_131 0 rfl rfl rfl (Nat.le_of_ble_eq_true rfl) (Nat.le_of_ble_eq_true rfl) (m_pulls (d := d + 1) hN hD hM (q := i) (by omega)) (fun z2_ w1 hq => ?_)
            obtain ⟨hz2, rfl⟩ := hq
            have hng : (-z2_).toInt = - puI D i := by rw [t_neg (by omega), hz2]
            refine g_ineg dX8_post_114 (g_iadd dX8_post_115 (g_istore3 dX8_post_116 rfl rfl (g_iinc4 ki_1 dX8_post_117 rfl rfl (g_goto (tgt := 58) dX8_post_120 (by decide) (?s58_7)))))
            rw [nI_1]
            refine ih (i + 1) _ (by omega) ?_
            rw [t_add (by omega) (by omega), hz, hng, hpl]
          case c95_6 =>
            rw [ei, Int.toNat_natCast, p1]
            have hr : rgB D xx i = true := by
              by_cases hh : rgB D xx i = true
              · exact hh
              · exact absurd (hb.mpr hh) h82
            rw [if_pos hr] at hpl
            refine g_V2i dX8_post_95 mv_X8_131 0 rfl rfl rfl (Nat.le_of_ble_eq_true rfl) (Nat.le_of_ble_eq_true rfl) (m_pulls (d := d + 1) hN hD hM (q := i) (by omega)) (fun z2_ w1 hq => ?_)
            obtain ⟨hz2, rfl⟩ := hq
            refine g_goto (tgt := 115) dX8_post_98 (by decide) (g_iadd dX8_post_115 (g_istore3 dX8_post_116 rfl rfl (g_iinc4 ki_1 dX8_post_117 rfl rfl (g_goto (tgt := 58) dX8_post_120 (by decide) (?s58_8)))))
            rw [nI_1]
            refine ih (i + 1) _ (by omega) ?_
            rw [t_add (by omega) (by omega), hz, hz2, hpl]
    refine g_iconst ki_0 dX8_post_53 (g_istore3 dX8_post_54 rfl rfl (g_iconst ki_0 dX8_post_55 (g_istore4 dX8_post_56 rfl rfl (?s58_9))))
    exact loop D.1.length 0 0 (by omega) (by show (0 : Int32).toInt = 0; decide)
theorem bpF_w (D : Dg) : ∀ u, (bpF D u).2 = (wndF D (bpF D u).1 D.1.length).1 ∧ (bpF D u).1 ≤ u
  | 0 => ⟨rfl, Nat.le_refl _⟩
  | u + 1 => by
    have := bpF_w D u
    unfold bpF
    split
    · exact ⟨rfl, Nat.le_refl _⟩
    · exact ⟨this.1, by omega⟩
set_option maxRecDepth 20000 in
set_option maxHeartbeats 4000000 in
theorem c_X8_bestPost (hN : g_N E) (hD : dgOK D) (hM : MD v f D) (k : Int32) : g_Ci E mX8_bestPost (d + 3) [.ref (b 0), .int k] (mW E b v t f) (fun z w => z = sBestPost D k ∧ w = mW E b v t f) := by
  obtain ⟨n0, n1, n2⟩ := hM.n1 hD.1
  have hn := hD.1
  refine g_enterI hN.1 (by decide) [some (.ref (b 0)), some (.int k), none, none] rfl (Nat.le_of_ble_eq_true rfl) (fun A Q hQ => ?_)
  have tcm2 := tc_m2; have tc0 := tc_0; have tc1 := tc_1
  unfold sBestPost at hQ
  have loop : ∀ u i, i + u = D.1.length → (0 ≤ k.toInt ∧ k.toInt ≤ 1) → G E mX8_bestPost (d + 3) 0 0 A Q 0 0 17 [some (.ref (b 0)), some (.int k), some (.int (nI (bpF D i).1)), some (.int (nI (i + 1)))] [] (mW E b v t f) := by
    intro u
    induction u with
    | zero =>
      intro i hi hk
      have ei := t_nI (n := i + 1) (by omega)
      obtain ⟨w1, w2⟩ := bpF_w D i
      rw [if_neg (by omega)] at hQ
      refine g_iload3 dX8_bestPost_17 (g_aload0 dX8_bestPost_18 (g_mget fl_X8_103 mg_12 dX8_bestPost_19 (g_icmp_gt (tgt := 46) dX8_bestPost_22 (by decide) (fun h22 => g_iload1 dX8_bestPost_46 (g_if_ne (tgt := 54) dX8_bestPost_47 (by decide) (fun h47 => g_aload0 dX8_bestPost_54 (g_iload2 dX8_bestPost_55 (?c56))) (fun h47 => g_iload2 dX8_bestPost_50 (g_goto (tgt := 59) dX8_bestPost_51 (by decide) (g_iret rfl dX8_bestPost_59 (Nat.le_of_ble_eq_true rfl) (Nat.le_of_ble_eq_true rfl) ?q59))))) (fun h22 => ?s25))))
      case s25 => omega
      case q59 =>
        rw [if_pos (by omega)] at hQ
        exact hQ _ _ ⟨by rw [show i = D.1.length by omega], rfl⟩
      case c56 =>
        rw [if_neg (by omega)] at hQ
        refine g_V1i dX8_bestPost_56 mv_X8_313 0 rfl rfl rfl (Nat.le_of_ble_eq_true rfl) (Nat.le_of_ble_eq_true rfl) (c_X8_wound (d := d) hN hD hM (s := (bpF D i).1) (by omega)) (fun z1_ w1 hq => ?_)
        obtain ⟨rfl, rfl⟩ := hq
        refine g_iret rfl dX8_bestPost_59 (Nat.le_of_ble_eq_true rfl) (Nat.le_of_ble_eq_true rfl) ?q59_2
        exact hQ _ _ ⟨by rw [← w1, show i = D.1.length by omega], rfl⟩
    | succ u ih =>
      intro i hi hk
      have ei := t_nI (n := i + 1) (by omega)
      obtain ⟨w1, w2⟩ := bpF_w D i
      have hb : bpF D (i + 1) = if (wndF D (i + 1) D.1.length).1.toInt < (bpF D i).2.toInt then (i + 1, (wndF D (i + 1) D.1.length).1) else bpF D i := rfl
      have hnx := ih (i + 1) (by omega) hk
      refine g_iload3 dX8_bestPost_17 (g_aload0 dX8_bestPost_18 (g_mget fl_X8_103 mg_12 dX8_bestPost_19 (g_icmp_gt (tgt := 46) dX8_bestPost_22 (by decide) (fun h22 => ?s46_3) (fun h22 => g_aload0 dX8_bestPost_25 (g_iload3 dX8_bestPost_26 (?c27_3))))))
      case s46_3 => omega
      case c27_3 =>
        refine g_V1i dX8_bestPost_27 mv_X8_313 0 rfl rfl rfl (Nat.le_of_ble_eq_true rfl) (Nat.le_of_ble_eq_true rfl) (c_X8_wound (d := d) hN hD hM (s := i + 1) (by omega)) (fun z1_ w1 hq => ?_)
        obtain ⟨rfl, rfl⟩ := hq
        refine g_aload0 dX8_bestPost_30 (g_iload2 dX8_bestPost_31 (?c32_4))
        refine g_V1i dX8_bestPost_32 mv_X8_313 0 rfl rfl rfl (Nat.le_of_ble_eq_true rfl) (Nat.le_of_ble_eq_true rfl) (c_X8_wound (d := d) hN hD hM (s := (bpF D i).1) (by omega)) (fun z2_ w1 hq => ?_)
        obtain ⟨rfl, rfl⟩ := hq
        rw [← w1]
        refine g_icmp_ge (tgt := 40) dX8_bestPost_35 (by decide) (fun h35 => g_iinc3 ki_1 dX8_bestPost_40 rfl rfl (g_goto (tgt := 17) dX8_bestPost_43 (by decide) (?s17_5))) (fun h35 => g_iload3 dX8_bestPost_38 (g_istore2 dX8_bestPost_39 rfl rfl (g_iinc3 ki_1 dX8_bestPost_40 rfl rfl (g_goto (tgt := 17) dX8_bestPost_43 (by decide) (?s17_5')))))
        case s17_5 =>
          rw [if_neg (by omega)] at hb
          rw [nI_1, ← hb]
          exact hnx
        case s17_5' =>
          rw [if_pos (by omega)] at hb
          rw [hb] at hnx
          rw [nI_1]
          exact hnx
  refine g_iload1 dX8_bestPost_0 (g_i2l dX8_bestPost_1 (g_lconst kl_0 dX8_bestPost_2 (g_lconst kl_1 dX8_bestPost_3 (r_X8_in hN mv_X8_106 dX8_bestPost_4 (Nat.le_of_ble_eq_true rfl) (Nat.le_of_ble_eq_true rfl) rfl (g_if_ne (tgt := 13) dX8_bestPost_7 (by decide) (fun h7 => g_iconst ki_0 dX8_bestPost_13 (g_istore2 dX8_bestPost_14 rfl rfl (g_iconst ki_1 dX8_bestPost_15 (g_istore3 dX8_bestPost_16 rfl rfl (?s17_6))))) (fun h7 => g_bipush kb_m2 dX8_bestPost_10 (g_iret rfl dX8_bestPost_12 (Nat.le_of_ble_eq_true rfl) (Nat.le_of_ble_eq_true rfl) ?q12_6)))))))
  all_goals try simp only [g_biz, Int32.toInt_toInt64, tl_m4611686018427387904, tl_m1, tl_0, tl_1, tl_2, tl_3, tl_4, tl_5, tl_9, tl_10, tl_20, tl_40, tl_43, tl_48, tl_57, tl_60, tl_97, tl_99, tl_122, tl_255] at *
  case q12_6 => rw [if_pos (by omega)] at hQ; exact hQ _ _ ⟨rfl, rfl⟩
  case s17_6 => exact loop D.1.length 0 (by omega) (by omega)
end S92
