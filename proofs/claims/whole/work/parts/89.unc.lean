theorem kern_and : ∀ s, s < 64 → 0 < s → nI s &&& (nI s - 1) = nI (s &&& (s - 1)) ∧ bitN s = bitN (s &&& (s - 1)) + 1 ∧ s &&& (s - 1) < 64 := by decide +kernel
theorem bitN_pos : ∀ s, s < 64 → bitN s = 0 → s = 0 := by decide +kernel
theorem bitN_top : ∀ n, n ≤ 6 → ∀ s, s < 2 ^ n - 1 → bitN s < bitN (2 ^ n - 1) := by decide +kernel
theorem bitN_le2 : ∀ n, n ≤ 6 → ∀ s, s < 2 ^ n → bitN s ≤ bitN (2 ^ n - 1) := by decide +kernel
theorem all_bit : ∀ n, n ≤ 6 → ∀ x, x < n → (2 ^ n - 1).testBit x = true := by decide +kernel
theorem tgL_all {n : Nat} (hn : n ≤ 6) {L : List Cr} (h : ∀ c ∈ L, c.2.2.1 < n) : tgL (2 ^ n - 1) L = [] := by
  have : ∀ (l acc : List Cr), (∀ c ∈ l, c.2.2.1 < n) → l.foldl (tgF (2 ^ n - 1)) acc = acc := by
    intro l
    induction l with
    | nil => intro acc _; rfl
    | cons c l ih =>
      intro acc hc
      rw [List.foldl_cons]
      have h1 : tgF (2 ^ n - 1) acc c = acc := by
        unfold tgF woB
        rw [all_bit n hn _ (hc c List.mem_cons_self)]
        rfl
      rw [h1]
      exact ih acc (fun x hx => hc x (List.mem_cons_of_mem _ hx))
  exact this L [] h
def unI (m f : Nat) : Int32 := if f = m then -1 else nI f
section S89
variable {E : GE} {d : Nat} {b : Nat → Nat} {v : Nat → Int32} {t : Int64} {f : Nat → Nat → Int32} {D : Dg} {L Lt : List Cr} {O0 : List Nat} {T : List Nat} {r : Nat} {B : List Nat} {C : List Int32} {e : Nat → Nat}
set_option maxRecDepth 20000 in
theorem c_X8_bitsOf (hN : g_N E) {s : Nat} (hs : s < 64) : g_Ci E mX8_bitsOf (d + 1) [.int (nI s)] [] (fun z w => z = nI (bitN s) ∧ w = []) := by
  refine g_enterI hN.1 (by decide) [some (.int (nI s)), none, none] rfl (Nat.le_of_ble_eq_true rfl) (fun A Q hQ => ?_)
  have tc0 := tc_0; have tc1 := tc_1
  have loop : ∀ u m k, m < 64 → bitN m = u → k + u = bitN s → G E mX8_bitsOf (d + 1) 0 0 A Q 0 0 4 [some (.int (nI s)), some (.int (nI k)), some (.int (nI m))] [] [] := by
    intro u
    induction u with
    | zero =>
      intro m k hm hb hk
      have := bitN_pos m hm hb
      subst this
      have e0 : (nI 0).toInt = 0 := by decide
      refine g_iload2 dX8_bitsOf_4 (g_if_eq (tgt := 20) dX8_bitsOf_5 (by decide) (fun h5 => g_iload1 dX8_bitsOf_20 (g_iret rfl dX8_bitsOf_21 (Nat.le_of_ble_eq_true rfl) (Nat.le_of_ble_eq_true rfl) ?q21)) (fun h5 => ?s8))
      case s8 => omega
      case q21 => exact hQ _ _ ⟨by rw [← hk]; rfl, rfl⟩
    | succ u ih =>
      intro m k hm hb hk
      have em := t_nI (n := m) (by omega)
      have hpos : 0 < m := by
        apply Nat.pos_of_ne_zero
        intro q
        rw [q] at hb
        have : bitN 0 = 0 := by decide
        omega
      obtain ⟨k1, k2, k3⟩ := kern_and m hm hpos
      refine g_iload2 dX8_bitsOf_4 (g_if_eq (tgt := 20) dX8_bitsOf_5 (by decide) (fun h5 => ?s20_2) (fun h5 => g_iinc1 ki_1 dX8_bitsOf_8 rfl rfl (g_iload2 dX8_bitsOf_11 (g_iload2 dX8_bitsOf_12 (g_iconst ki_1 dX8_bitsOf_13 (g_isub dX8_bitsOf_14 (g_iand dX8_bitsOf_15 (g_istore2 dX8_bitsOf_16 rfl rfl (g_goto (tgt := 4) dX8_bitsOf_17 (by decide) (?s4_2))))))))))
      case s20_2 => omega
      case s4_2 =>
        rw [k1, nI_1]
        exact ih _ (k + 1) k3 (by omega) (by omega)
  refine g_iconst ki_0 dX8_bitsOf_0 (g_istore1 dX8_bitsOf_1 rfl rfl (g_iload0 dX8_bitsOf_2 (g_istore2 dX8_bitsOf_3 rfl rfl (?s4_3))))
  exact loop (bitN s) s 0 hs rfl (by omega)
set_option maxRecDepth 20000 in
set_option maxHeartbeats 4000000 in
theorem c_X8_unclip (hN : g_N E) (hD : dgOK D) (hM : MD v f D) (hL : ML v f L) (hI : PLI D O0 L) (x : Int32) : g_Ci E mX8_unclip (d + 4) [.ref (b 0), .int x] (mW E b v t f) (fun z w => z = sUnclip D L x ∧ ∃ v' f', w = mW E b v' t f' ∧ agV [34] v v' ∧ agF [11, 31, 32, 33] f f' ∧ MD v' f' D) := by
  have hn := hD.1
  have h64 := two_pow6 hn
  have hpos : 0 < 2 ^ D.1.length := Nat.two_pow_pos _
  have ep := t_nI (n := 2 ^ D.1.length) (by omega)
  have hok := hI.ok hD
  have hall : woL (2 ^ D.1.length - 1) L = [] := by rw [woL_tg, tgL_all hn (fun c hc => (hok c hc).2.2.1)]; rfl
  have htop := bitN_top D.1.length hn
  have htop2 := bitN_le2 D.1.length hn
  refine g_enterI hN.1 (by decide) [some (.ref (b 0)), some (.int x), none, none] rfl (Nat.le_of_ble_eq_true rfl) (fun A Q hQ => ?_)
  have tcm2 := tc_m2; have tcm1 := tc_m1; have tc0 := tc_0; have tc1 := tc_1
  have bits : ∀ {pc : Nat} {ls : List (Option Value)} {st : List Value} {ws : va_W} {s idx : Nat} (hs : s < 64) (hm : MS mX8_unclip.1.cls idx mX8_bitsOf 1) (hd : decode mX8_unclip.2.1 pc = .ok (.invokestatic idx, 3)) (hr : Nat.ble (st.map fun v => v.category).sum 8 = true) (kk : G E mX8_unclip (d + 4) 0 0 A Q 0 0 (pc + 3) ls (.int (nI (bitN s)) :: st) ws), G E mX8_unclip (d + 4) 0 0 A Q 0 0 pc ls (.int (nI s) :: st) ws := by
    intro pc ls st ws s idx hs hm hd hr kk
    exact g_S1i hd hm hr (Nat.le_refl _) (Nat.le_refl _) ((c_X8_bitsOf (d := d + 2) hN hs).none) (fun r_ w_ hq => by obtain ⟨w1_, ⟨h1_, h2_⟩, rfl⟩ := hq; rw [List.append_nil] at h2_; rw [h1_, h2_]; exact kk)
  generalize hU : unL D L = U at *
  have hUlt : U < 2 ^ D.1.length := by
    rw [← hU]
    unfold unL
    exact unF_lt L _ _ _ (by omega) (fun s hs => by have := List.mem_range.mp hs; omega)
  have fin : ∀ v2 f2 l3, agV [34] v v2 → agF [11, 31, 32, 33] f f2 → MD v2 f2 D → (0 ≤ x.toInt ∧ x.toInt ≤ 1) → G E mX8_unclip (d + 4) 0 0 A Q 0 0 63 [some (.ref (b 0)), some (.int x), some (.int (nI U)), l3] [] (mW E b v2 t f2) := by
    intro v2 f2 l3 h1 h2 h3 hx
    unfold sUnclip at hQ
    rw [hU] at hQ
    refine g_iload1 dX8_unclip_63 (g_if_ne (tgt := 71) dX8_unclip_64 (by decide) (fun h64 => g_iload2 dX8_unclip_71 (?c72)) (fun h64 => g_iload2 dX8_unclip_67 (g_goto (tgt := 75) dX8_unclip_68 (by decide) (g_iret rfl dX8_unclip_75 (Nat.le_of_ble_eq_true rfl) (Nat.le_of_ble_eq_true rfl) ?q75))))
    case q75 =>
      rw [if_pos (by omega)] at hQ
      exact hQ _ _ ⟨rfl, v2, f2, rfl, h1, h2, h3⟩
    case c72 =>
      rw [if_neg (by omega), if_pos (by omega)] at hQ
      refine bits (by omega) mv_X8_284 dX8_unclip_72 rfl ?_
      refine g_iret rfl dX8_unclip_75 (Nat.le_of_ble_eq_true rfl) (Nat.le_of_ble_eq_true rfl) ?q75_2
      exact hQ _ _ ⟨rfl, v2, f2, rfl, h1, h2, h3⟩
  have loop : ∀ u s v2 f2, s + u + 1 = 2 ^ D.1.length → agV [34] v v2 → agF [11, 31, 32, 33] f f2 → MD v2 f2 D → ML v2 f2 L → (0 ≤ x.toInt ∧ x.toInt ≤ 1) → ∀ F, F = (List.range s).foldl (unF L) (2 ^ D.1.length - 1) → G E mX8_unclip (d + 4) 0 0 A Q 0 0 17 [some (.ref (b 0)), some (.int x), some (.int (unI (2 ^ D.1.length - 1) F)), some (.int (nI s))] [] (mW E b v2 t f2) := by
    have hFlt : ∀ s F, s + 1 ≤ 2 ^ D.1.length → F = (List.range s).foldl (unF L) (2 ^ D.1.length - 1) → F < 2 ^ D.1.length := by
      intro s F hs hF
      rw [hF]
      exact unF_lt L _ _ _ (by omega) (fun y hy => by have := List.mem_range.mp hy; omega)
    have try_ : ∀ s v2 f2 F, s + 1 ≤ 2 ^ D.1.length → agV [34] v v2 → agF [11, 31, 32, 33] f f2 → MD v2 f2 D → ML v2 f2 L → (∀ v3 f3, agV [34] v v3 → agF [11, 31, 32, 33] f f3 → MD v3 f3 D → ML v3 f3 L → G E mX8_unclip (d + 4) 0 0 A Q 0 0 57 [some (.ref (b 0)), some (.int x), some (.int (if (woL s L).length = 0 then nI s else unI (2 ^ D.1.length - 1) F)), some (.int (nI s))] [] (mW E b v3 t f3)) → G E mX8_unclip (d + 4) 0 0 A Q 0 0 43 [some (.ref (b 0)), some (.int x), some (.int (unI (2 ^ D.1.length - 1) F)), some (.int (nI s))] [] (mW E b v2 t f2) := by
      intro s v2 f2 F hs h1 h2 h3 h4 kk
      refine g_aload0 dX8_unclip_43 (g_iload3 dX8_unclip_44 (?c45_3))
      refine g_V1v dX8_unclip_45 mv_X8_281 0 rfl rfl rfl (Nat.le_of_ble_eq_true rfl) (Nat.le_of_ble_eq_true rfl) (c_X8_tangle (d := d) hN hD h3 h4 hI (s := s) (by omega)) (fun w1 hq => ?_)
      obtain ⟨v3, f3, rfl, g1, g2, g3, g4⟩ := hq
      have hk := kk v3 f3 (h1.tr g1) (h2.tr g2) (h3.tg g1 g2 g3) (h4.ag g1 g2 rfl rfl rfl)
      have hl40 := g4.1
      have e34 : (v3 34).toInt = (woL s L).length := by rw [g4.2.1, woL_len, t_nI (by omega)]
      refine g_aload0 dX8_unclip_48 (g_mget fl_X8_274 mg_34 dX8_unclip_49 (g_if_ne (tgt := 57) dX8_unclip_52 (by decide) (fun h52 => ?s57_4) (fun h52 => g_iload3 dX8_unclip_55 (g_istore2 dX8_unclip_56 rfl rfl (?s57_4')))))
      case s57_4 => rw [if_neg (by omega)] at hk; exact hk
      case s57_4' => rw [if_pos (by omega)] at hk; exact hk
    have unn : ∀ (s F : Nat), F ≠ 2 ^ D.1.length - 1 → unI (2 ^ D.1.length - 1) F = nI F := fun s F h => if_neg h
    intro u
    induction u with
    | zero =>
      intro s v2 f2 hs h1 h2 h3 h4 hx F hF
      have hF1 := hFlt s F (by omega) hF
      have es := t_nI (n := s) (by omega)
      have hsall : s = 2 ^ D.1.length - 1 := by omega
      have hFU : F = U := by rw [hF, ← hU, hsall]; rfl
      have e12 : ((1 : Int32) <<< (v2 12 &&& 31)).toInt = ((2 ^ D.1.length : Nat) : Int) := by rw [h3.1, (pow_nI hn).2, ep]
      have last : ∀ v3 f3, agV [34] v v3 → agF [11, 31, 32, 33] f f3 → MD v3 f3 D → G E mX8_unclip (d + 4) 0 0 A Q 0 0 57 [some (.ref (b 0)), some (.int x), some (.int (nI U)), some (.int (nI s))] [] (mW E b v3 t f3) := by
        intro v3 f3 g1 g2 g3
        have e12 : ((1 : Int32) <<< (v3 12 &&& 31)).toInt = ((2 ^ D.1.length : Nat) : Int) := by rw [g3.1, (pow_nI hn).2, ep]
        have es1 : (nI s + 1).toInt = ((2 ^ D.1.length : Nat) : Int) := by rw [nI_1, show s + 1 = 2 ^ D.1.length by omega, ep]
        refine g_iinc3 ki_1 dX8_unclip_57 rfl rfl (g_goto (tgt := 17) dX8_unclip_60 (by decide) (g_iload3 dX8_unclip_17 (g_iconst ki_1 dX8_unclip_18 (g_aload0 dX8_unclip_19 (g_mget fl_X8_103 mg_12 dX8_unclip_20 (g_ishl dX8_unclip_23 (g_icmp_ge (tgt := 63) dX8_unclip_24 (by decide) (fun h24 => ?s63_5) (fun h24 => ?s27_5))))))))
        case s27_5 => omega
        case s63_5 => exact fin v3 f3 _ g1 g2 g3 hx
      by_cases hq : F = 2 ^ D.1.length - 1
      · have hun : unI (2 ^ D.1.length - 1) F = -1 := if_pos hq
        have htr := try_ s v2 f2 F (by omega) h1 h2 h3 h4 (fun v3 f3 g1 g2 g3 g4 => by
          rw [hsall, hall, if_pos (show ([] : List Cr).length = 0 from rfl)]
          have := last v3 f3 g1 g2 g3
          rw [← hFU, hq, hsall] at this
          exact this)
        rw [hun] at htr ⊢
        refine g_iload3 dX8_unclip_17 (g_iconst ki_1 dX8_unclip_18 (g_aload0 dX8_unclip_19 (g_mget fl_X8_103 mg_12 dX8_unclip_20 (g_ishl dX8_unclip_23 (g_icmp_ge (tgt := 63) dX8_unclip_24 (by decide) (fun h24 => ?s63_6) (fun h24 => g_iload2 dX8_unclip_27 (g_iconst ki_m1 dX8_unclip_28 (g_icmp_eq (tgt := 43) dX8_unclip_29 (by decide) (fun h29 => ?s43_6) (fun h29 => g_iload3 dX8_unclip_32 (?c33_6))))))))))
        case s63_6 => omega
        case s43_6 => exact htr
        all_goals omega
      · have hun : unI (2 ^ D.1.length - 1) F = nI F := if_neg hq
        have eF := t_nI (n := F) (by omega)
        have hb1 := htop2 F hF1
        have hl := last v2 f2 h1 h2 h3
        rw [hun]
        refine g_iload3 dX8_unclip_17 (g_iconst ki_1 dX8_unclip_18 (g_aload0 dX8_unclip_19 (g_mget fl_X8_103 mg_12 dX8_unclip_20 (g_ishl dX8_unclip_23 (g_icmp_ge (tgt := 63) dX8_unclip_24 (by decide) (fun h24 => ?s63_7) (fun h24 => g_iload2 dX8_unclip_27 (g_iconst ki_m1 dX8_unclip_28 (g_icmp_eq (tgt := 43) dX8_unclip_29 (by decide) (fun h29 => ?s43_7) (fun h29 => g_iload3 dX8_unclip_32 (?c33_7))))))))))
        case s63_7 => omega
        case s43_7 => omega
        case c33_7 =>
          refine bits (by omega) mv_X8_284 dX8_unclip_33 rfl ?_
          refine g_iload2 dX8_unclip_36 (?c37_8)
          refine bits (by omega) mv_X8_284 dX8_unclip_37 rfl ?_
          have eb1 := t_nI (n := bitN s) (by have := bitN_le s; omega)
          have eb2 := t_nI (n := bitN F) (by have := bitN_le F; omega)
          rw [hsall] at eb1
          refine g_icmp_ge (tgt := 57) dX8_unclip_40 (by decide) (fun h40 => ?s57_9) (fun h40 => ?s43_9)
          all_goals try rw [hsall] at h40
          case s43_9 => omega
          case s57_9 => rw [hFU]; exact hl
    | succ u ih =>
      intro s v2 f2 hs h1 h2 h3 h4 hx F hF
      have hF1 := hFlt s F (by omega) hF
      have es := t_nI (n := s) (by omega)
      have e12 : ((1 : Int32) <<< (v2 12 &&& 31)).toInt = ((2 ^ D.1.length : Nat) : Int) := by rw [h3.1, (pow_nI hn).2, ep]
      have hb2 := htop s (by omega)
      have hnext : ∀ v3 f3 z, agV [34] v v3 → agF [11, 31, 32, 33] f f3 → MD v3 f3 D → ML v3 f3 L → z = unI (2 ^ D.1.length - 1) (unF L F s) → G E mX8_unclip (d + 4) 0 0 A Q 0 0 57 [some (.ref (b 0)), some (.int x), some (.int z), some (.int (nI s))] [] (mW E b v3 t f3) := by
        intro v3 f3 z g1 g2 g3 g4 hz
        refine g_iinc3 ki_1 dX8_unclip_57 rfl rfl (g_goto (tgt := 17) dX8_unclip_60 (by decide) (?s17_10))
        rw [nI_1, hz]
        refine ih (s + 1) v3 f3 (by omega) g1 g2 g3 g4 hx _ ?_
        rw [List.range_succ, List.foldl_append, ← hF]
        rfl
      by_cases hq : F = 2 ^ D.1.length - 1
      · have hun : unI (2 ^ D.1.length - 1) F = -1 := if_pos hq
        have htr := try_ s v2 f2 F (by omega) h1 h2 h3 h4 (fun v3 f3 g1 g2 g3 g4 => by
          refine hnext v3 f3 _ g1 g2 g3 g4 ?_
          unfold unF
          by_cases hw : (woL s L).length = 0
          · rw [if_pos hw, if_pos ⟨by rw [hq]; exact hb2, hw⟩, unn 0 s (by omega)]
          · rw [if_neg hw, if_neg (fun q => hw q.2)])
        rw [hun] at htr ⊢
        refine g_iload3 dX8_unclip_17 (g_iconst ki_1 dX8_unclip_18 (g_aload0 dX8_unclip_19 (g_mget fl_X8_103 mg_12 dX8_unclip_20 (g_ishl dX8_unclip_23 (g_icmp_ge (tgt := 63) dX8_unclip_24 (by decide) (fun h24 => ?s63_11) (fun h24 => g_iload2 dX8_unclip_27 (g_iconst ki_m1 dX8_unclip_28 (g_icmp_eq (tgt := 43) dX8_unclip_29 (by decide) (fun h29 => ?s43_11) (fun h29 => g_iload3 dX8_unclip_32 (?c33_11))))))))))
        case s63_11 => omega
        case s43_11 => exact htr
        all_goals omega
      · have hun : unI (2 ^ D.1.length - 1) F = nI F := if_neg hq
        have eF := t_nI (n := F) (by omega)
        have htr := fun (hbb : bitN s < bitN F) => try_ s v2 f2 F (by omega) h1 h2 h3 h4 (fun v3 f3 g1 g2 g3 g4 => by
          refine hnext v3 f3 _ g1 g2 g3 g4 ?_
          unfold unF
          by_cases hw : (woL s L).length = 0
          · rw [if_pos hw, if_pos ⟨hbb, hw⟩, unn 0 s (by omega)]
          · rw [if_neg hw, if_neg (fun q => hw q.2)])
        have hsk := fun (hbb : ¬ bitN s < bitN F) => hnext v2 f2 (nI F) h1 h2 h3 h4 (by unfold unF; rw [if_neg (fun q => hbb q.1), hun])
        rw [hun] at htr ⊢
        refine g_iload3 dX8_unclip_17 (g_iconst ki_1 dX8_unclip_18 (g_aload0 dX8_unclip_19 (g_mget fl_X8_103 mg_12 dX8_unclip_20 (g_ishl dX8_unclip_23 (g_icmp_ge (tgt := 63) dX8_unclip_24 (by decide) (fun h24 => ?s63_12) (fun h24 => g_iload2 dX8_unclip_27 (g_iconst ki_m1 dX8_unclip_28 (g_icmp_eq (tgt := 43) dX8_unclip_29 (by decide) (fun h29 => ?s43_12) (fun h29 => g_iload3 dX8_unclip_32 (?c33_12))))))))))
        case s63_12 => omega
        case s43_12 => omega
        case c33_12 =>
          refine bits (by omega) mv_X8_284 dX8_unclip_33 rfl ?_
          refine g_iload2 dX8_unclip_36 (?c37_13)
          refine bits (by omega) mv_X8_284 dX8_unclip_37 rfl ?_
          have eb1 := t_nI (n := bitN s) (by have := bitN_le s; omega)
          have eb2 := t_nI (n := bitN F) (by have := bitN_le F; omega)
          refine g_icmp_ge (tgt := 57) dX8_unclip_40 (by decide) (fun h40 => ?s57_14) (fun h40 => ?s43_14)
          case s43_14 => exact htr (by omega)
          case s57_14 => exact hsk (by omega)
  refine g_iload1 dX8_unclip_0 (g_i2l dX8_unclip_1 (g_lconst kl_0 dX8_unclip_2 (g_lconst kl_1 dX8_unclip_3 (r_X8_in hN mv_X8_106 dX8_unclip_4 (Nat.le_of_ble_eq_true rfl) (Nat.le_of_ble_eq_true rfl) rfl (g_if_ne (tgt := 13) dX8_unclip_7 (by decide) (fun h7 => g_iconst ki_m1 dX8_unclip_13 (g_istore2 dX8_unclip_14 rfl rfl (g_iconst ki_0 dX8_unclip_15 (g_istore3 dX8_unclip_16 rfl rfl (?s17_15))))) (fun h7 => g_bipush kb_m2 dX8_unclip_10 (g_iret rfl dX8_unclip_12 (Nat.le_of_ble_eq_true rfl) (Nat.le_of_ble_eq_true rfl) ?q12_15)))))))
  all_goals try simp only [g_biz, Int32.toInt_toInt64, tl_m4611686018427387904, tl_m1, tl_0, tl_1, tl_2, tl_3, tl_4, tl_5, tl_9, tl_10, tl_20, tl_40, tl_43, tl_48, tl_57, tl_60, tl_97, tl_99, tl_122, tl_255] at *
  case q12_15 =>
    unfold sUnclip at hQ
    rw [if_neg (by omega), if_neg (by omega)] at hQ
    exact hQ _ _ ⟨rfl, v, f, rfl, agV.rf, agF.rf, hM⟩
  case s17_15 =>
    have := loop (2 ^ D.1.length - 1) 0 v f (by omega) agV.rf agF.rf hM hL (by omega) _ rfl
    rw [show (List.range 0).foldl (unF L) (2 ^ D.1.length - 1) = 2 ^ D.1.length - 1 from rfl, show unI (2 ^ D.1.length - 1) (2 ^ D.1.length - 1) = -1 from if_pos rfl] at this
    exact this
end S89
