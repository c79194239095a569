def sSeeC (D : Dg) (s : Int32 × List Int32) (x k w : Int32) : Int32 :=
  if ¬ (sRef D s x).toInt = 0 then sRef D s x
  else if ¬ ((0 ≤ k.toInt ∧ k.toInt ≤ 4) ∧ (0 ≤ w.toInt ∧ w.toInt ≤ 1)) then -2
  else nI (rtF D.1.length (wN s.2) (decide (w.toInt = 1)) k.toInt.toNat D.2.2.2.2 [])
def Ase (E : GE) (a : Nat → Nat) (D : Dg) (r : Nat) (L : List Cr) (im tc : Int32) (i : Nat) (s : Int32 × List Int32) (w : va_W) : Prop := ∃ w1 to tp, Axs E a D r L im tc i s w1 ∧ w = w1 ++ [(a 51, ia E 6 to), (a 52, ia E 4 tp)]
section S9c
variable {E : GE} {d : Nat} {a : Nat → Nat} {D : Dg} {r : Nat} {L : List Cr} {im tc : Int32} {w : va_W} {i : Nat} {s : Int32 × List Int32}
set_option maxRecDepth 20000 in
set_option maxHeartbeats 1000000 in
theorem c_seen (hN : g_N E) (hw : Ase E a D r L im tc i s w) (x k wh : Int32) (hx : shN x i) : g_Ci E mX7_seen (d + 9) [.ref (a 0), .int x, .int k, .int wh] w (fun z w' => z = sSeeC D s x k wh ∧ Ase E a D r L im tc i s w') := by
  obtain ⟨w1, to, tp, hA, rfl⟩ := hw
  have hA' := hA
  have hA2 := hA
  obtain ⟨-, wq1, wq2, ⟨wp, wr, hpk, -, -⟩, -, -⟩ := hA2
  obtain ⟨-, kd0, pc0, nb0, hs0, od0, -, j1, j2, j3, j4, j5'⟩ := hpk
  obtain ⟨kd, pc, nb, hs, od, pl, ov, on, ot, be, it, rfl, hD, hs40, hit, hi4⟩ := hA.lit
  have hod : Lst D.2.2.2.2 od := by
    obtain ⟨-, wq1, wq2, ⟨wp, wr, hpk, -, hw1⟩, -, hw2⟩ := hA
    obtain ⟨-, kd1, pc1, nb1, hs1, od1, hwp, k1, k2, k3, k4, k5⟩ := hpk
    rw [hw1, hwp] at hw2
    have h5 := congrArg (fun (l : va_W) => l[6]?) hw2
    simp at h5
    rw [h5]
    exact k5
  obtain ⟨hn, l1, l2, l3, l4, b1, b2, b3, b4, b5, hnd⟩ := id hD
  have en := t_nI (n := D.1.length) (by omega)
  refine g_enterI hN.1 (by decide) [some (.ref (a 0)), some (.int x), some (.int k), some (.int wh), none, none] rfl (Nat.le_of_ble_eq_true rfl) (fun A Q hQ => ?_)
  have tcm2 := tc_m2; have tc0 := tc_0; have tc1 := tc_1; have tc4 := tc_4
  unfold sSeeC at hQ
  have z1 := g_biz (p := ((0 : Int32).toInt ≤ k.toInt ∧ k.toInt ≤ (4 : Int32).toInt))
  have z2 := g_biz (p := ((0 : Int32).toInt ≤ wh.toInt ∧ wh.toInt ≤ (1 : Int32).toInt))
  refine g_aload0 dX7_seen_0 (g_iload1 dX7_seen_1 (?c2))
  refine g_V1i dX7_seen_2 mv_X7_215 0 rfl rfl rfl (Nat.le_of_ble_eq_true rfl) (Nat.le_of_ble_eq_true rfl) ((c_refusalOfOrder (d := d + 5) hN hA' x hx).frame (X := []) (Y := [(a 51, ia E 6 to), (a 52, ia E 4 tp)])) (fun z1_ w1 hq => ?_)
  obtain ⟨w3, ⟨rfl, rfl⟩, rfl⟩ := hq
  by_cases h0 : (sRef D s x).toInt = 0
  · rw [if_neg (fun q => q h0)] at hQ
    obtain ⟨r1, r2, r3, r4, -⟩ := sRef_0 h0
    have hxi := hx r1
    have hxx : x = nI i := by rw [← hxi]; exact t_of (by omega)
    have tx := t_nI (n := i) (by omega)
    subst hxx
    have hwl : (wN s.2).length = D.1.length := by unfold wN; rw [List.length_map]; exact r3
    have hLG : Lst (wN s.2) it := by
      intro p y hp
      have hp2 := (List.getElem?_eq_some_iff.mp hp).1
      rw [wN_get (by omega)] at hp
      have h1 := Option.some.inj hp
      have h2 := r4 p (by omega)
      rw [hit p (by omega), ← h1]
      exact t_of h2.1
    have hgb : ∀ y ∈ wN s.2, y < 1000 := by
      intro y hy
      obtain ⟨p, hp⟩ := List.getElem?_of_mem hy
      have hp2 := (List.getElem?_eq_some_iff.mp hp).1
      rw [wN_get (by omega)] at hp
      have h1 := Option.some.inj hp
      have h2 := r4 p (by omega)
      omega
    have main : (0 ≤ k.toInt ∧ k.toInt ≤ 4) → (0 ≤ wh.toInt ∧ wh.toInt ≤ 1) → ∀ to, Lst D.2.2.2.2 to → G E mX7_seen (d + 9) 0 0 A Q 0 0 74 [some (.ref (a 0)), some (.int (nI i)), some (.int k), some (.int wh), some (.int (sRef D s (nI i))), some (.int (nI D.1.length))] [] ((((a 0, dolO a im tc) :: (packW E a 1 kd pc nb hs od (nI D.1.length) (nI r) ++ rowW E a 7 pl ov on ot be (nI L.length))) ++ ((a 50, raS E a) :: shtW E a (78 + 2 * i) it s.1 (nI s.2.length))) ++ [(a 51, ia E 6 to), (a 52, ia E 4 tp)]) := by
      intro hk hwh to hto
      rw [if_neg (fun q => q ⟨hk, hwh⟩)] at hQ
      have hkk : k = nI k.toInt.toNat := t_of (by omega)
      have call : ∀ z : Int32, z = g_bi (decide (wh.toInt = 1) = true) → G E mX7_seen (d + 9) 0 0 A Q 0 0 93 [some (.ref (a 0)), some (.int (nI i)), some (.int k), some (.int wh), some (.int (sRef D s (nI i))), some (.int (nI D.1.length))] [.int z, .int k, .int 0, .ref (a (78 + 2 * i)), .ref (a 0)] ((((a 0, dolO a im tc) :: (packW E a 1 kd pc nb hs od (nI D.1.length) (nI r) ++ rowW E a 7 pl ov on ot be (nI L.length))) ++ ((a 50, raS E a) :: shtW E a (78 + 2 * i) it s.1 (nI s.2.length))) ++ [(a 51, ia E 6 to), (a 52, ia E 4 tp)]) := by
        intro z hz
        rw [hz]
        refine g_sub (ws' := seW E a im tc (nI D.1.length) (nI r) (78 + 2 * i) it s.1 (nI s.2.length) to tp ++ [(a 2, ia E 6 kd), (a 3, ia E 6 pc), (a 4, ia E 6 nb), (a 5, ia E 6 hs), (a 6, ia E 6 od), (a 7, .inr (3, [.ref (a 8), .ref (a 9), .ref (a 10), .ref (a 11), .ref (a 12), .int (nI L.length)])), (a 8, ia E 40 pl), (a 9, ia E 40 ov), (a 10, ia E 40 on), (a 11, ia E 40 ot), (a 12, ia E 40 be), (a 50, raS E a)]) [0, 1, 14, 15, 16, 17, 2, 3, 4, 5, 6, 7, 8, 9, 10, 11, 12, 13] (by decide) rfl ?_
        have hc := e_rows (E := E) (a := a) (im := im) (tc := tc) (rr := nI r) (so := s.1) (m := nI s.2.length) (k := 78 + 2 * i) (al := decide (wh.toInt = 1)) (d := d + 4 - k.toInt.toNat) hN hn (kk := k.toInt.toNat) (by omega) hwl hgb hLG k.toInt.toNat D.2.2.2.2 [] to tp (by simp) l4 (fun y hy => by have := b5 y hy; omega) (fun y hy => by cases hy) hto (fun j x hj => by simp at hj)
        rw [show d + 4 - k.toInt.toNat + k.toInt.toNat + 4 = d + 8 by omega, ← hkk] at hc
        refine g_V4i dX7_seen_93 mv_X7_231 0 rfl rfl rfl (Nat.le_of_ble_eq_true rfl) (Nat.le_of_ble_eq_true rfl) (hc.frame (X := []) (Y := [(a 2, ia E 6 kd), (a 3, ia E 6 pc), (a 4, ia E 6 nb), (a 5, ia E 6 hs), (a 6, ia E 6 od), (a 7, .inr (3, [.ref (a 8), .ref (a 9), .ref (a 10), .ref (a 11), .ref (a 12), .int (nI L.length)])), (a 8, ia E 40 pl), (a 9, ia E 40 ov), (a 10, ia E 40 on), (a 11, ia E 40 ot), (a 12, ia E 40 be), (a 50, raS E a)])) (fun z2_ w1 hq => ?_)
        obtain ⟨w3, ⟨rfl, to2, tp2, rfl, -, -⟩, rfl⟩ := hq
        refine g_sub (ws' := (((a 0, dolO a im tc) :: (packW E a 1 kd pc nb hs od (nI D.1.length) (nI r) ++ rowW E a 7 pl ov on ot be (nI L.length))) ++ ((a 50, raS E a) :: shtW E a (78 + 2 * i) it s.1 (nI s.2.length))) ++ [(a 51, ia E 6 to2), (a 52, ia E 4 tp2)]) [0, 1, 6, 7, 8, 9, 10, 11, 12, 13, 14, 15, 16, 17, 2, 3, 4, 5] (by decide) rfl ?_
        refine g_iret rfl dX7_seen_96 (Nat.le_of_ble_eq_true rfl) (Nat.le_of_ble_eq_true rfl) ?q96_2
        exact hQ _ _ ⟨rfl, _, to2, tp2, hA', rfl⟩
      refine g_aload0 dX7_seen_74 (g_aload0 dX7_seen_75 (g_get fl_X7_65 0 rfl rfl dX7_seen_76 (g_iload1 dX7_seen_79 (g_aaload 2 13 rfl rfl dX7_seen_80 ?b80_3 (?a80_3)))))
      case b80_3 => rw [tx]; show _ ∧ _ < (4 : Int); omega
      case a80_3 =>
        have hrf : va_rf (some (a (78 + 2 * (nI i).toInt.toNat))) = .ref (a (78 + 2 * i)) := by rw [tx, Int.toNat_natCast]; rfl
        refine (show _ = _ from congrArg (fun (u : Value) => G E mX7_seen (d + 9) 0 0 A Q 0 0 81 [some (.ref (a 0)), some (.int (nI i)), some (.int k), some (.int wh), some (.int (sRef D s (nI i))), some (.int (nI D.1.length))] (u :: [.ref (a 0)]) ((((a 0, dolO a im tc) :: (packW E a 1 kd pc nb hs od (nI D.1.length) (nI r) ++ rowW E a 7 pl ov on ot be (nI L.length))) ++ ((a 50, raS E a) :: shtW E a (78 + 2 * i) it s.1 (nI s.2.length))) ++ [(a 51, ia E 6 to), (a 52, ia E 4 tp)])) hrf).mpr ?_
        refine g_iconst ki_0 dX7_seen_81 (g_iload2 dX7_seen_82 (g_iload3 dX7_seen_83 (g_iconst ki_1 dX7_seen_84 (g_icmp_ne (tgt := 92) dX7_seen_85 (by decide) (fun h85 => g_iconst ki_0 dX7_seen_92 (?s93_4)) (fun h85 => g_iconst ki_1 dX7_seen_88 (g_goto (tgt := 93) dX7_seen_89 (by decide) (?s93_4')))))))
        case s93_4 => exact call 0 (by rw [g_bi0 (by simp; omega)])
        case s93_4' => exact call 1 (by rw [g_bi1 (by simp; omega)])
    have loop : (0 ≤ k.toInt ∧ k.toInt ≤ 4) → (0 ≤ wh.toInt ∧ wh.toInt ≤ 1) → ∀ u p to, p + u = D.1.length → (∀ j, j < p → to j = od j) → G E mX7_seen (d + 9) 0 0 A Q 0 0 39 [some (.ref (a 0)), some (.int (nI i)), some (.int k), some (.int wh), some (.int (sRef D s (nI i))), some (.int (nI p))] [] ((((a 0, dolO a im tc) :: (packW E a 1 kd pc nb hs od (nI D.1.length) (nI r) ++ rowW E a 7 pl ov on ot be (nI L.length))) ++ ((a 50, raS E a) :: shtW E a (78 + 2 * i) it s.1 (nI s.2.length))) ++ [(a 51, ia E 6 to), (a 52, ia E 4 tp)]) := by
      intro hk hwh u
      induction u with
      | zero =>
        intro p to hp hall
        have ep := t_nI (n := p) (by omega)
        have hpn : p = D.1.length := by omega
        subst hpn
        refine g_iload5 dX7_seen_39 (g_aload0 dX7_seen_41 (g_get fl_X7_10 0 rfl rfl dX7_seen_42 (g_get fl_X7_110 1 rfl rfl dX7_seen_45 (g_icmp_ge (tgt := 74) dX7_seen_48 (by decide) (fun h48 => ?s74_5) (fun h48 => ?s51_5)))))
        case s51_5 => omega
        case s74_5 =>
          refine main hk hwh to ?_
          intro j y hj
          have := (List.getElem?_eq_some_iff.mp hj).1
          rw [hall j (by omega)]
          exact hod j y hj
      | succ u ih =>
        intro p to hp hall
        have ep := t_nI (n := p) (by omega)
        refine g_iload5 dX7_seen_39 (g_aload0 dX7_seen_41 (g_get fl_X7_10 0 rfl rfl dX7_seen_42 (g_get fl_X7_110 1 rfl rfl dX7_seen_45 (g_icmp_ge (tgt := 74) dX7_seen_48 (by decide) (fun h48 => ?s74_6) (fun h48 => g_aload0 dX7_seen_51 (g_get fl_X7_69 0 rfl rfl dX7_seen_52 (g_iload5 dX7_seen_55 (g_aload0 dX7_seen_57 (g_get fl_X7_10 0 rfl rfl dX7_seen_58 (g_get fl_X7_152 1 rfl rfl dX7_seen_61 (g_iload5 dX7_seen_64 (g_iaload 6 rfl dX7_seen_66 ?b66_6 (g_iastore 16 rfl dX7_seen_67 ?b67_6 (g_iinc5 ki_1 dX7_seen_68 rfl rfl (g_goto (tgt := 39) dX7_seen_71 (by decide) (?s39_6))))))))))))))))
        case s74_6 => omega
        case b66_6 => exact ⟨by omega, by show _ < (6 : Int); omega⟩
        case b67_6 => exact ⟨by omega, by show _ < (6 : Int); omega⟩
        case s39_6 =>
          rw [ep, Int.toNat_natCast, nI_1]
          refine ih (p + 1) _ (by omega) ?_
          intro j hj
          by_cases hjp : j = p
          · rw [hjp, upd_s]
          · rw [upd_o hjp]; exact hall j (by omega)
    refine g_istore4 dX7_seen_5 rfl rfl (g_iload4 dX7_seen_7 (g_if_eq (tgt := 15) dX7_seen_9 (by decide) (fun h9 => g_iload2 dX7_seen_15 (g_iconst ki_0 dX7_seen_16 (g_iconst ki_4 dX7_seen_17 (r_X7_isWithin hN mv_X7_100 dX7_seen_18 (Nat.le_of_ble_eq_true rfl) (Nat.le_of_ble_eq_true rfl) rfl (g_if_eq (tgt := 33) dX7_seen_21 (by decide) (fun h21 => g_bipush kb_m2 dX7_seen_33 (g_iret rfl dX7_seen_35 (Nat.le_of_ble_eq_true rfl) (Nat.le_of_ble_eq_true rfl) ?q35_7)) (fun h21 => g_iload3 dX7_seen_24 (g_iconst ki_0 dX7_seen_25 (g_iconst ki_1 dX7_seen_26 (r_X7_isWithin hN mv_X7_100 dX7_seen_27 (Nat.le_of_ble_eq_true rfl) (Nat.le_of_ble_eq_true rfl) rfl (g_if_ne (tgt := 36) dX7_seen_30 (by decide) (fun h30 => g_iconst ki_0 dX7_seen_36 (g_istore5 dX7_seen_37 rfl rfl (?s39_7))) (fun h30 => g_bipush kb_m2 dX7_seen_33 (g_iret rfl dX7_seen_35 (Nat.le_of_ble_eq_true rfl) (Nat.le_of_ble_eq_true rfl) ?q35_7')))))))))))) (fun h9 => g_iload4 dX7_seen_12 (g_iret rfl dX7_seen_14 (Nat.le_of_ble_eq_true rfl) (Nat.le_of_ble_eq_true rfl) ?q14_7))))
    case q14_7 => omega
    case q35_7 => rw [if_pos (by omega)] at hQ; exact hQ _ _ ⟨rfl, _, to, tp, hA', rfl⟩
    case q35_7' => rw [if_pos (by omega)] at hQ; exact hQ _ _ ⟨rfl, _, to, tp, hA', rfl⟩
    case s39_7 => exact loop (by omega) (by omega) D.1.length 0 to (by omega) (fun j hj => absurd hj (Nat.not_lt_zero j))
  · rw [if_pos h0] at hQ
    refine g_istore4 dX7_seen_5 rfl rfl (g_iload4 dX7_seen_7 (g_if_eq (tgt := 15) dX7_seen_9 (by decide) (fun h9 => ?s15_8) (fun h9 => g_iload4 dX7_seen_12 (g_iret rfl dX7_seen_14 (Nat.le_of_ble_eq_true rfl) (Nat.le_of_ble_eq_true rfl) ?q14_8))))
    case s15_8 => omega
    case q14_8 => exact hQ _ _ ⟨rfl, _, to, tp, hA', rfl⟩
end S9c
