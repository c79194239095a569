/-! the order on a sheet, swaps -/
def mskF (V : List Int32) : Nat → Int32
  | 0 => 0
  | t + 1 => mskF V t ||| (1 <<< (V.getD t 0 &&& 31))
def sRef (D : Dg) (s : Int32 × List Int32) (x : Int32) : Int32 :=
  if ¬ (0 ≤ x.toInt ∧ x.toInt ≤ 3) then -2
  else if s.1.toInt = -1 then -11
  else if ¬ s.2.length = D.1.length then -2
  else if (∀ t, t < s.2.length → 0 ≤ (s.2.getD t 0).toInt ∧ (s.2.getD t 0).toInt < D.1.length) ∧ (mskF s.2 s.2.length).toInt = (nI (2 ^ D.1.length - 1)).toInt then 0
  else -2
def inF (D : Dg) (V : List Int32) (i : Nat) : Nat → Nat
  | 0 => 0
  | t + 1 => inF D V i t + (if plN D (V.getD (i + 1 + t) 0).toInt.toNat < plN D (V.getD i 0).toInt.toNat then 1 else 0)
def swF (D : Dg) (V : List Int32) : Nat → Nat
  | 0 => 0
  | t + 1 => swF D V t + inF D V t (V.length - 1 - t)
def sSwaps (D : Dg) (s : Int32 × List Int32) (x : Int32) : Int32 := if (sRef D s x).toInt = 0 then nI (swF D s.2 s.2.length) else sRef D s x
theorem sRef_0 {D : Dg} {s : Int32 × List Int32} {x : Int32} (h : (sRef D s x).toInt = 0) : (0 ≤ x.toInt ∧ x.toInt ≤ 3) ∧ ¬ s.1.toInt = -1 ∧ s.2.length = D.1.length ∧ (∀ t, t < s.2.length → 0 ≤ (s.2.getD t 0).toInt ∧ (s.2.getD t 0).toInt < D.1.length) ∧ (mskF s.2 s.2.length).toInt = (nI (2 ^ D.1.length - 1)).toInt := by
  unfold sRef at h
  split at h
  · exact absurd h (by decide)
  · rename_i q1
    split at h
    · exact absurd h (by decide)
    · rename_i q2
      split at h
      · exact absurd h (by decide)
      · rename_i q3
        split at h
        · rename_i q4
          exact ⟨by omega, q2, by omega, q4.1, q4.2⟩
        · exact absurd h (by decide)
section S54
variable {E : GE} {d : Nat} {a : Nat → Nat} {D : Dg} {r : Nat} {L : List Cr} {im tc : Int32} {w : va_W} {i : Nat} {s : Int32 × List Int32}
theorem Axs.lit (h : Axs E a D r L im tc i s w) : ∃ kd pc nb hs od pl ov on ot be it, w = ((a 0, dolO a im tc) :: (packW E a 1 kd pc nb hs od (nI D.1.length) (nI r) ++ rowW E a 7 pl ov on ot be (nI L.length))) ++ ((a 50, raS E a) :: shtW E a (78 + 2 * i) it s.1 (nI s.2.length)) ∧ dgOK D ∧ s.2.length ≤ 40 ∧ (∀ i, i < s.2.length → it i = s.2.getD i 0) ∧ i < 4 := by
  obtain ⟨hi, w1, ws, hA, hs, rfl⟩ := h
  obtain ⟨hV, it, rfl, hit⟩ := hs
  obtain ⟨kd, pc, nb, hs0, od, pl, ov, on, ot, be, rfl, hD, -⟩ := hA.lit
  exact ⟨kd, pc, nb, hs0, od, pl, ov, on, ot, be, it, rfl, hD, hV, fun i h => hit i _ (getD_ai h), hi⟩
theorem Axs.dog (hN : g_N E) (h : Axs E a D r L im tc i s w) (v : Int32) : g_Ci E mX7_isDog (d + 2) [.ref (a 0), .int v] w (fun x w' => x = g_bi (0 ≤ v.toInt ∧ v.toInt < D.1.length) ∧ w' = w) := by
  obtain ⟨hi, w1, ws, hA, hs, rfl⟩ := h
  exact ((c_isDog hN hA v).frame (X := []) (Y := (a 50, raS E a) :: ws)).post (fun z w' hz => by obtain ⟨w3, ⟨q1, rfl⟩, q4⟩ := hz; exact ⟨q1, q4⟩)
theorem Axs.all (hN : g_N E) (h : Axs E a D r L im tc i s w) : g_Ci E mX7_allDogs (d + 2) [.ref (a 0)] w (fun x w' => x = nI (2 ^ D.1.length - 1) ∧ w' = w) := by
  obtain ⟨hi, w1, ws, hA, hs, rfl⟩ := h
  exact ((c_allDogs hN hA).frame (X := []) (Y := (a 50, raS E a) :: ws)).post (fun z w' hz => by obtain ⟨w3, ⟨q1, rfl⟩, q4⟩ := hz; exact ⟨q1, q4⟩)
theorem Axs.place (hN : g_N E) (h : Axs E a D r L im tc i s w) {x : Nat} (hx : x < D.1.length) : g_Ci E mX1_placeOf (d + 1) [.ref (a 1), .int (nI x)] w (fun v w' => v = nI (plN D x) ∧ w' = w) := by
  obtain ⟨hi, w1, ws, ⟨wp, wr, hp, hr, rfl⟩, hs, rfl⟩ := h
  have hm := dg_mem hp.1 hx
  have := (c_placeOf (d := d) hN hp hm).frame (X := [(a 0, dolO a im tc)]) (Y := wr ++ ((a 50, raS E a) :: ws))
  have he : [(a 0, dolO a im tc)] ++ (wp ++ (wr ++ ((a 50, raS E a) :: ws))) = ((a 0, dolO a im tc) :: (wp ++ wr)) ++ ((a 50, raS E a) :: ws) := by simp
  rw [he] at this
  exact this.post (fun z w' hz => by obtain ⟨w3, ⟨q1, rfl⟩, q4⟩ := hz; exact ⟨q1, by rw [q4, he]⟩)
set_option maxRecDepth 20000 in
set_option maxHeartbeats 2000000 in
theorem c_refusalOfOrder (hN : g_N E) (hw : Axs E a D r L im tc i s w) (x : Int32) (hx : shN x i) : g_Ci E mX7_refusalOfOrder (d + 3) [.ref (a 0), .int x] w (fun z w' => z = sRef D s x ∧ w' = w) := by
  have hw' := hw
  obtain ⟨kd, pc, nb, hs0, od, pl, ov, on, ot, be, it, rfl, hD, hV, hit, hi⟩ := hw.lit
  have hn := hD.1
  have eV := t_nI (n := s.2.length) (by omega)
  have eD := t_nI (n := D.1.length) (by omega)
  refine g_enterI hN.1 (by decide) [some (.ref (a 0)), some (.int x), none, none, none] rfl (Nat.le_of_ble_eq_true rfl) (fun A Q hQ => ?_)
  have tcm11 := tc_m11; have tcm2 := tc_m2; have tcm1 := tc_m1; have tc0 := tc_0; have tc1 := tc_1
  have z0 := g_biz (p := (0 ≤ x.toInt ∧ x.toInt ≤ 3))
  unfold sRef at hQ
  refine g_iload1 dX7_refusalOfOrder_0 (r_X7_isSheet hN mv_X7_269 dX7_refusalOfOrder_1 (Nat.le_of_ble_eq_true rfl) (Nat.le_of_ble_eq_true rfl) rfl (g_if_ne (tgt := 10) dX7_refusalOfOrder_4 (by decide) (fun h4 => g_aload0 dX7_refusalOfOrder_10 (g_get fl_X7_65 0 rfl rfl dX7_refusalOfOrder_11 (g_iload1 dX7_refusalOfOrder_14 (g_aaload 2 13 rfl rfl dX7_refusalOfOrder_15 ?b15 (?a15))))) (fun h4 => g_bipush kb_m2 dX7_refusalOfOrder_7 (g_iret rfl dX7_refusalOfOrder_9 (Nat.le_of_ble_eq_true rfl) (Nat.le_of_ble_eq_true rfl) ?q9))))
  case q9 => rw [if_pos (by omega)] at hQ; exact hQ _ _ ⟨rfl, rfl⟩
  all_goals rw [if_neg (by omega)] at hQ
  case b15 => exact ⟨by omega, by show _ < (4 : Int); omega⟩
  case a15 =>
    rw [hx (by omega)]
    dsimp only [va_rf]
    refine g_astore2 dX7_refusalOfOrder_16 rfl rfl (g_aload2 dX7_refusalOfOrder_17 (g_get fl_X7_275 14 rfl rfl dX7_refusalOfOrder_18 (g_iconst ki_m1 dX7_refusalOfOrder_21 (g_icmp_ne (tgt := 28) dX7_refusalOfOrder_22 (by decide) (fun h22 => g_aload2 dX7_refusalOfOrder_28 (g_get fl_X7_218 14 rfl rfl dX7_refusalOfOrder_29 (g_aload0 dX7_refusalOfOrder_32 (g_get fl_X7_10 0 rfl rfl dX7_refusalOfOrder_33 (g_get fl_X7_110 1 rfl rfl dX7_refusalOfOrder_36 (g_icmp_eq (tgt := 45) dX7_refusalOfOrder_39 (by decide) (fun h39 => g_iconst ki_0 dX7_refusalOfOrder_45 (g_istore3 dX7_refusalOfOrder_46 rfl rfl (g_iconst ki_0 dX7_refusalOfOrder_47 (g_istore4 dX7_refusalOfOrder_48 rfl rfl (?s50_2))))) (fun h39 => g_bipush kb_m2 dX7_refusalOfOrder_42 (g_iret rfl dX7_refusalOfOrder_44 (Nat.le_of_ble_eq_true rfl) (Nat.le_of_ble_eq_true rfl) ?q44_2)))))))) (fun h22 => g_bipush kb_m11 dX7_refusalOfOrder_25 (g_iret rfl dX7_refusalOfOrder_27 (Nat.le_of_ble_eq_true rfl) (Nat.le_of_ble_eq_true rfl) ?q27_2))))))
    case q27_2 => rw [if_pos (by omega)] at hQ; exact hQ _ _ ⟨rfl, rfl⟩
    case q44_2 => rw [if_neg (by omega), if_pos (by omega)] at hQ; exact hQ _ _ ⟨rfl, rfl⟩
    case s50_2 =>
      rw [if_neg (by omega), if_neg (by omega)] at hQ
      have loop : ∀ t i', i' + t = s.2.length → (∀ t, t < i' → 0 ≤ (s.2.getD t 0).toInt ∧ (s.2.getD t 0).toInt < D.1.length) → G E mX7_refusalOfOrder (d + 3) 0 0 A Q 0 0 50 [some (.ref (a 0)), some (.int x), some (.ref (a (78 + 2 * i))), some (.int (mskF s.2 i')), some (.int (nI i'))] [] (((a 0, dolO a im tc) :: (packW E a 1 kd pc nb hs0 od (nI D.1.length) (nI r) ++ rowW E a 7 pl ov on ot be (nI L.length))) ++ ((a 50, raS E a) :: shtW E a (78 + 2 * i) it s.1 (nI s.2.length))) := by
        intro t
        induction t with
        | zero =>
          intro i' hi' hall
          have ei := t_nI (n := i') (by omega)
          have he : i' = s.2.length := by omega
          subst he
          refine g_iload4 dX7_refusalOfOrder_50 (g_aload2 dX7_refusalOfOrder_52 (g_get fl_X7_218 14 rfl rfl dX7_refusalOfOrder_53 (g_icmp_ge (tgt := 95) dX7_refusalOfOrder_56 (by decide) (fun h56 => g_iload3 dX7_refusalOfOrder_95 (g_aload0 dX7_refusalOfOrder_96 (?c97_3))) (fun h56 => ?s59_3))))
          case s59_3 => omega
          case c97_3 =>
            refine g_V0i dX7_refusalOfOrder_97 mv_X7_189 0 rfl rfl rfl (Nat.le_of_ble_eq_true rfl) (Nat.le_of_ble_eq_true rfl) (hw'.all hN) (fun r1 w1 hq => ?_)
            obtain ⟨rfl, rfl⟩ := hq
            refine g_icmp_ne (tgt := 107) dX7_refusalOfOrder_100 (by decide) (fun h100 => g_bipush kb_m2 dX7_refusalOfOrder_107 (g_iret rfl dX7_refusalOfOrder_109 (Nat.le_of_ble_eq_true rfl) (Nat.le_of_ble_eq_true rfl) ?q109_4)) (fun h100 => g_iconst ki_0 dX7_refusalOfOrder_103 (g_goto (tgt := 109) dX7_refusalOfOrder_104 (by decide) (g_iret rfl dX7_refusalOfOrder_109 (Nat.le_of_ble_eq_true rfl) (Nat.le_of_ble_eq_true rfl) ?q109_4')))
            case q109_4 => rw [if_neg (fun q => h100 q.2)] at hQ; exact hQ _ _ ⟨rfl, rfl⟩
            case q109_4' => rw [if_pos ⟨hall, h100⟩] at hQ; exact hQ _ _ ⟨rfl, rfl⟩
        | succ t ih =>
          intro i' hi' hall
          have ei := t_nI (n := i') (by omega)
          have hnext := ih (i' + 1) (by omega)
          rw [mskF] at hnext
          have hiv := hit i' (by omega)
          have z1 := g_biz (p := (0 ≤ (s.2.getD i' 0).toInt ∧ (s.2.getD i' 0).toInt < D.1.length))
          refine g_iload4 dX7_refusalOfOrder_50 (g_aload2 dX7_refusalOfOrder_52 (g_get fl_X7_218 14 rfl rfl dX7_refusalOfOrder_53 (g_icmp_ge (tgt := 95) dX7_refusalOfOrder_56 (by decide) (fun h56 => ?s95_5) (fun h56 => g_aload0 dX7_refusalOfOrder_59 (g_aload2 dX7_refusalOfOrder_60 (g_get fl_X7_219 14 rfl rfl dX7_refusalOfOrder_61 (g_iload4 dX7_refusalOfOrder_64 (g_iaload 15 rfl dX7_refusalOfOrder_66 ?b66_5 (?c67_5)))))))))
          case s95_5 => omega
          case b66_5 => exact ⟨by omega, by show _ < (40 : Int); omega⟩
          case c67_5 =>
            rw [ei, Int.toNat_natCast, hiv]
            refine g_V1i dX7_refusalOfOrder_67 mv_X7_115 0 rfl rfl rfl (Nat.le_of_ble_eq_true rfl) (Nat.le_of_ble_eq_true rfl) (hw'.dog hN _) (fun r1 w1 hq => ?_)
            obtain ⟨rfl, rfl⟩ := hq
            refine g_if_ne (tgt := 76) dX7_refusalOfOrder_70 (by decide) (fun h70 => g_iload3 dX7_refusalOfOrder_76 (g_aload2 dX7_refusalOfOrder_77 (g_get fl_X7_219 14 rfl rfl dX7_refusalOfOrder_78 (g_iload4 dX7_refusalOfOrder_81 (g_iaload 15 rfl dX7_refusalOfOrder_83 ?b83_6 (r_X7_bit hN mv_X7_178 dX7_refusalOfOrder_84 (Nat.le_of_ble_eq_true rfl) (Nat.le_of_ble_eq_true rfl) rfl (g_ior dX7_refusalOfOrder_87 (g_istore3 dX7_refusalOfOrder_88 rfl rfl (g_iinc4 ki_1 dX7_refusalOfOrder_89 rfl rfl (g_goto (tgt := 50) dX7_refusalOfOrder_92 (by decide) (?s50_6))))))))))) (fun h70 => g_bipush kb_m2 dX7_refusalOfOrder_73 (g_iret rfl dX7_refusalOfOrder_75 (Nat.le_of_ble_eq_true rfl) (Nat.le_of_ble_eq_true rfl) ?q75_6))
            case q75_6 =>
              rw [if_neg (fun q => by have := q.1 i' (by omega); omega)] at hQ
              exact hQ _ _ ⟨rfl, rfl⟩
            case b83_6 => exact ⟨by omega, by show _ < (40 : Int); omega⟩
            case s50_6 =>
              rw [ei, Int.toNat_natCast, hiv, nI_1]
              refine hnext (fun t ht => ?_)
              by_cases q : t = i'
              · subst q; omega
              · exact hall t (by omega)
      exact loop s.2.length 0 (by omega) (fun t ht => by omega)
set_option maxRecDepth 20000 in
set_option maxHeartbeats 2000000 in
theorem c_swaps (hN : g_N E) (hw : Axs E a D r L im tc i s w) (x : Int32) (hx : shN x i) : g_Ci E mX7_swaps (d + 4) [.ref (a 0), .int x] w (fun z w' => z = sSwaps D s x ∧ w' = w) := by
  have hw' := hw
  obtain ⟨kd, pc, nb, hs0, od, pl, ov, on, ot, be, it, rfl, hD, hV, hit, hi⟩ := hw.lit
  have hn := hD.1
  have eV := t_nI (n := s.2.length) (by omega)
  have eD := t_nI (n := D.1.length) (by omega)
  have hpl : ∀ z, z < D.1.length → plN D z < 1000 := fun z hz => by
    have := List.idxOf_lt_length_of_mem (dg_mem hD hz)
    have := hD.2.2.2.2.1
    show D.2.2.2.2.idxOf z < 1000
    omega
  refine g_enterI hN.1 (by decide) [some (.ref (a 0)), some (.int x), none, none, none, none, none] rfl (Nat.le_of_ble_eq_true rfl) (fun A Q hQ => ?_)
  have tc0 := tc_0; have tc1 := tc_1
  unfold sSwaps at hQ
  refine g_aload0 dX7_swaps_0 (g_iload1 dX7_swaps_1 (?c2))
  refine g_V1i dX7_swaps_2 mv_X7_215 0 rfl rfl rfl (Nat.le_of_ble_eq_true rfl) (Nat.le_of_ble_eq_true rfl) (c_refusalOfOrder hN hw' x hx) (fun r1 w1 hq => ?_)
  obtain ⟨rfl, rfl⟩ := hq
  refine g_istore2 dX7_swaps_5 rfl rfl (g_iload2 dX7_swaps_6 (g_if_eq (tgt := 12) dX7_swaps_7 (by decide) (fun h7 => g_aload0 dX7_swaps_12 (g_get fl_X7_65 0 rfl rfl dX7_swaps_13 (g_iload1 dX7_swaps_16 (g_aaload 2 13 rfl rfl dX7_swaps_17 ?b17_2 (?a17_2))))) (fun h7 => g_iload2 dX7_swaps_10 (g_iret rfl dX7_swaps_11 (Nat.le_of_ble_eq_true rfl) (Nat.le_of_ble_eq_true rfl) ?q11_2))))
  case q11_2 => rw [if_neg h7] at hQ; exact hQ _ _ ⟨rfl, rfl⟩
  case b17_2 =>
    have h0 := sRef_0 h7
    exact ⟨by omega, by show _ < (4 : Int); omega⟩
  case a17_2 =>
    obtain ⟨k1, k2, k3, hall, -⟩ := sRef_0 h7
    rw [if_pos h7] at hQ
    rw [hx (by omega)]
    dsimp only [va_rf]
    generalize sRef D s x = rf
    have outer : ∀ t i' l6, i' + t = s.2.length → G E mX7_swaps (d + 4) 0 0 A Q 0 0 25 [some (.ref (a 0)), some (.int x), some (.int rf), some (.ref (a (78 + 2 * i))), some (.int (nI (swF D s.2 i'))), some (.int (nI i')), l6] [] (((a 0, dolO a im tc) :: (packW E a 1 kd pc nb hs0 od (nI D.1.length) (nI r) ++ rowW E a 7 pl ov on ot be (nI L.length))) ++ ((a 50, raS E a) :: shtW E a (78 + 2 * i) it s.1 (nI s.2.length))) := by
      intro t
      induction t with
      | zero =>
        intro i' l6 hi'
        have ei := t_nI (n := i') (by omega)
        have he : i' = s.2.length := by omega
        refine g_iload5 dX7_swaps_25 (g_aload3 dX7_swaps_27 (g_get fl_X7_218 14 rfl rfl dX7_swaps_28 (g_icmp_ge (tgt := 95) dX7_swaps_31 (by decide) (fun h31 => g_iload4 dX7_swaps_95 (g_iret rfl dX7_swaps_97 (Nat.le_of_ble_eq_true rfl) (Nat.le_of_ble_eq_true rfl) ?q97_3)) (fun h31 => ?s34_3))))
        case s34_3 => omega
        case q97_3 => exact hQ _ _ ⟨by rw [he], rfl⟩
      | succ t ih =>
        intro i' l6 hi'
        have ei := t_nI (n := i') (by omega)
        have hnext := fun l6 => ih (i' + 1) l6 (by omega)
        rw [swF] at hnext
        have hv1 := hit i' (by omega)
        have ha1 := hall i' (by omega)
        have inner : ∀ u j', j' + u = s.2.length - 1 - i' → G E mX7_swaps (d + 4) 0 0 A Q 0 0 40 [some (.ref (a 0)), some (.int x), some (.int rf), some (.ref (a (78 + 2 * i))), some (.int (nI (swF D s.2 i' + inF D s.2 i' j'))), some (.int (nI i')), some (.int (nI (i' + 1 + j')))] [] (((a 0, dolO a im tc) :: (packW E a 1 kd pc nb hs0 od (nI D.1.length) (nI r) ++ rowW E a 7 pl ov on ot be (nI L.length))) ++ ((a 50, raS E a) :: shtW E a (78 + 2 * i) it s.1 (nI s.2.length))) := by
          intro u
          induction u with
          | zero =>
            intro j' hj'
            have ej := t_nI (n := i' + 1 + j') (by omega)
            have he : j' = s.2.length - 1 - i' := by omega
            refine g_iload6 dX7_swaps_40 (g_aload3 dX7_swaps_42 (g_get fl_X7_218 14 rfl rfl dX7_swaps_43 (g_icmp_ge (tgt := 89) dX7_swaps_46 (by decide) (fun h46 => g_iinc5 ki_1 dX7_swaps_89 rfl rfl (g_goto (tgt := 25) dX7_swaps_92 (by decide) (?s25_4))) (fun h46 => ?s49_4))))
            case s49_4 => omega
            case s25_4 =>
              rw [nI_1, he]
              exact hnext _
          | succ u ihu =>
            intro j' hj'
            have ej := t_nI (n := i' + 1 + j') (by omega)
            have hv2 := hit (i' + 1 + j') (by omega)
            have ha2 := hall (i' + 1 + j') (by omega)
            have hnx := ihu (j' + 1) (by omega)
            rw [inF] at hnx
            have c1 := hw'.place (d := d + 2) hN (x := (s.2.getD i' 0).toInt.toNat) (by omega)
            have c2 := hw'.place (d := d + 2) hN (x := (s.2.getD (i' + 1 + j') 0).toInt.toNat) (by omega)
            rw [← t_of (by omega)] at c1
            rw [← t_of (by omega)] at c2
            have b1 := hpl (s.2.getD i' 0).toInt.toNat (by omega)
            have b2 := hpl (s.2.getD (i' + 1 + j') 0).toInt.toNat (by omega)
            have p1 := t_nI (n := plN D (s.2.getD i' 0).toInt.toNat) (by omega)
            have p2 := t_nI (n := plN D (s.2.getD (i' + 1 + j') 0).toInt.toNat) (by omega)
            refine g_iload6 dX7_swaps_40 (g_aload3 dX7_swaps_42 (g_get fl_X7_218 14 rfl rfl dX7_swaps_43 (g_icmp_ge (tgt := 89) dX7_swaps_46 (by decide) (fun h46 => ?s89_5) (fun h46 => g_aload0 dX7_swaps_49 (g_get fl_X7_10 0 rfl rfl dX7_swaps_50 (g_aload3 dX7_swaps_53 (g_get fl_X7_219 14 rfl rfl dX7_swaps_54 (g_iload5 dX7_swaps_57 (g_iaload 15 rfl dX7_swaps_59 ?b59_5 (?c60_5))))))))))
            case s89_5 => omega
            case b59_5 => exact ⟨by omega, by show _ < (40 : Int); omega⟩
            case c60_5 =>
              rw [ei, Int.toNat_natCast, hv1]
              refine g_V1i dX7_swaps_60 mv_X7_135 1 rfl rfl rfl (Nat.le_of_ble_eq_true rfl) (Nat.le_of_ble_eq_true rfl) (c1) (fun r1 w1 hq => ?_)
              obtain ⟨rfl, rfl⟩ := hq
              refine g_aload0 dX7_swaps_63 (g_get fl_X7_10 0 rfl rfl dX7_swaps_64 (g_aload3 dX7_swaps_67 (g_get fl_X7_219 14 rfl rfl dX7_swaps_68 (g_iload6 dX7_swaps_71 (g_iaload 15 rfl dX7_swaps_73 ?b73_6 (?c74_6))))))
              case b73_6 => exact ⟨by omega, by show _ < (40 : Int); omega⟩
              case c74_6 =>
                rw [ej, Int.toNat_natCast, hv2]
                refine g_V1i dX7_swaps_74 mv_X7_135 1 rfl rfl rfl (Nat.le_of_ble_eq_true rfl) (Nat.le_of_ble_eq_true rfl) (c2) (fun r1 w1 hq => ?_)
                obtain ⟨rfl, rfl⟩ := hq
                refine g_icmp_le (tgt := 83) dX7_swaps_77 (by decide) (fun h77 => g_iinc6 ki_1 dX7_swaps_83 rfl rfl (g_goto (tgt := 40) dX7_swaps_86 (by decide) (?s40_7))) (fun h77 => g_iinc4 ki_1 dX7_swaps_80 rfl rfl (g_iinc6 ki_1 dX7_swaps_83 rfl rfl (g_goto (tgt := 40) dX7_swaps_86 (by decide) (?s40_7'))))
                case s40_7 =>
                  rw [nI_1]
                  rw [if_neg (by omega)] at hnx
                  exact hnx
                case s40_7' =>
                  rw [nI_1, nI_1]
                  rw [if_pos (by omega)] at hnx
                  exact hnx
        refine g_iload5 dX7_swaps_25 (g_aload3 dX7_swaps_27 (g_get fl_X7_218 14 rfl rfl dX7_swaps_28 (g_icmp_ge (tgt := 95) dX7_swaps_31 (by decide) (fun h31 => ?s95_8) (fun h31 => g_iload5 dX7_swaps_34 (g_iconst ki_1 dX7_swaps_36 (g_iadd dX7_swaps_37 (g_istore6 dX7_swaps_38 rfl rfl (?s40_8))))))))
        case s95_8 => omega
        case s40_8 =>
          rw [nI_1]
          exact inner (s.2.length - 1 - i') 0 (by omega)
    refine g_astore3 dX7_swaps_18 rfl rfl (g_iconst ki_0 dX7_swaps_19 (g_istore4 dX7_swaps_20 rfl rfl (g_iconst ki_0 dX7_swaps_22 (g_istore5 dX7_swaps_23 rfl rfl (?s25_9)))))
    exact outer s.2.length 0 _ (by omega)
end S54
