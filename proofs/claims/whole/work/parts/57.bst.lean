/-! the best order -/
/-- the rule's world, and the orders; F is the order found -/
def Aor (E : GE) (a : Nat → Nat) (D : Dg) (r : Nat) (L : List Cr) (im tc : Int32) (C : List Int32) (e : Nat → Nat) (F : List Nat) (w : va_W) : Prop := ∃ w1 en fd pr tr n0 le, Arl E a D r L im tc C e w1 ∧ Lst F fd ∧ w = w1 ++ ordW E a 37 en fd pr tr n0 le
def prB (D : Dg) (C : List Int32) (e : Nat → Nat) (p x y : Nat) : Nat := (rlI C e 0 (nmF D.1.length D.2.1 x y 1 (nI (if x < y then p else p + 1)))).toNat
def srF (n : Nat) (pP : Nat → Nat → Nat → Nat) (eP : Nat → Nat) : Nat × List Nat := if n = 0 then (0, []) else extF n (cstN n pP eP) n [] 0 (1000000, [])
def dnB (n : Nat) (f : Nat → Nat → Nat → Nat) (p x y : Nat) (pr : Nat → Int32) : Prop := ∀ p' x' y', p' + 1 < n → x' < n → y' < n → x' ≠ y' → (p' < p ∨ p' = p ∧ (x' < x ∨ x' = x ∧ y' < y)) → pr (sltN p' x' y') = nI (f p' x' y')
theorem sltN_inj {p x y p' x' y' : Nat} (hx : x < 6) (hy : y < 6) (hx' : x' < 6) (hy' : y' < 6) (h : sltN p x y = sltN p' x' y') : p = p' ∧ x = x' ∧ y = y' := by
  unfold sltN at h
  omega
theorem dnB.set {n p x y : Nat} {f : Nat → Nat → Nat → Nat} {pr : Nat → Int32} {v : Int32} (hn : n ≤ 6) (hx : x < n) (hy : y < n) (h : dnB n f p x y pr) (hv : v = nI (f p x y)) : dnB n f p x (y + 1) (upd pr (sltN p x y) v) := by
  intro p' x' y' k1 k2 k3 k4 k5
  by_cases q : sltN p' x' y' = sltN p x y
  · obtain ⟨rfl, rfl, rfl⟩ := sltN_inj (by omega) (by omega) (by omega) (by omega) q
    unfold upd
    rw [if_pos rfl, hv]
  · unfold upd
    rw [if_neg q]
    refine h p' x' y' k1 k2 k3 k4 ?_
    by_cases q2 : p' = p ∧ x' = x ∧ y' = y
    · obtain ⟨rfl, rfl, rfl⟩ := q2
      exact absurd rfl q
    · omega
theorem dnB.skip {n p x y : Nat} {f : Nat → Nat → Nat → Nat} {pr : Nat → Int32} (hxy : x = y) (h : dnB n f p x y pr) : dnB n f p x (y + 1) pr := fun p' x' y' k1 k2 k3 k4 k5 => h p' x' y' k1 k2 k3 k4 (by omega)
section S57
variable {E : GE} {d : Nat} {a : Nat → Nat} {im tc : Int32} {w : va_W} {adK adV ta : Nat → Nat} {e : Nat → Nat} {C : List Int32} {D : Dg} {r : Nat} {L : List Cr} {F : List Nat}
set_option maxRecDepth 20000 in
set_option maxHeartbeats 4000000 in
theorem c_findBestOrder (hE : g_E E adK adV ta) (hw : Aor E a D r L im tc C e F w) : g_Ci E mX7_findBestOrder (d + 11) [.ref (a 0)] w (fun z w' => z = nI (srF D.1.length (prB D C e) (fun _ => 0)).1 ∧ Aor E a D r L im tc C e (srF D.1.length (prB D C e) (fun _ => 0)).2 w') := by
  have hN := g_E_N hE
  obtain ⟨w1, en, fd, pr, tr, n0, le, hA, -, rfl⟩ := hw
  have hA0 := hA
  obtain ⟨kd, pc, nb, hs, od, pl, ov, on, ot, be, nm, code, ends, stk, hh, rfl, hD, j5, hpk⟩ := hA.lit
  have hn := hD.1
  have eD := t_nI (n := D.1.length) (by omega)
  refine g_enterI hN.1 (by decide) [some (.ref (a 0)), none, none, none, none] rfl (Nat.le_of_ble_eq_true rfl) (fun A Q hQ => ?_)
  have tc0 := tc_0; have tc1 := tc_1
  refine g_aload0 dX7_findBestOrder_0 (g_get fl_X7_36 0 rfl rfl dX7_findBestOrder_1 (g_aload0 dX7_findBestOrder_4 (g_get fl_X7_10 0 rfl rfl dX7_findBestOrder_5 (g_get fl_X7_110 1 rfl rfl dX7_findBestOrder_8 (?c11)))))
  refine g_V1v dX7_findBestOrder_11 mv_X7_238 19 rfl rfl rfl (Nat.le_of_ble_eq_true rfl) (Nat.le_of_ble_eq_true rfl) ((c_begin (d := d + 9) hN hn).frame (X := ((a 0, dolO a im tc) :: (packW E a 1 kd pc nb hs od (nI D.1.length) (nI r) ++ rowW E a 7 pl ov on ot be (nI L.length))) ++ ((a 48, raT E a) :: (a 49, ia E 6 nm) :: txtW E a (54 + 4 * r) code ends stk (nI C.length) hh)) (Y := [])) (fun w1 hq => ?_)
  obtain ⟨w3, ⟨en', rfl, hen⟩, rfl⟩ := hq
  have outer : ∀ t p w1 pr l2 l3 l4, p + t = D.1.length - 1 → Arl E a D r L im tc C e w1 → dnB D.1.length (prB D C e) p 0 0 pr → G E mX7_findBestOrder (d + 11) 0 0 A Q 0 0 16 [some (.ref (a 0)), some (.int (nI p)), l2, l3, l4] [] (w1 ++ ordW E a 37 en' fd pr tr (nI D.1.length) le) := by
    clear hA hpk
    intro t
    induction t with
    | zero =>
      intro p w1 pr l2 l3 l4 hp hA hdn
      have hA' := hA
      obtain ⟨kd, pc, nb, hs, od, pl, ov, on, ot, be, nm, code, ends, stk, hh, rfl, hD, j5, hpk⟩ := hA.lit
      have ep : (nI p + 1).toInt = (p : Int) + 1 := by rw [nI_1, t_nI (by omega)]; omega
      have hprs : prIs D.1.length (prB D C e) (fun _ => 0) en' pr := by
        refine ⟨fun x hx => ⟨hen x (by omega), Nat.zero_le _⟩, fun p' f l k1 k2 k3 k4 => ⟨hdn p' f l k1 k2 k3 k4 (by omega), ?_⟩⟩
        have := rlI_0 C e (nmF D.1.length D.2.1 f l 1 (nI (if f < l then p' else p' + 1))) (part := 0) (by omega)
        unfold prB
        omega
      refine g_iload1 dX7_findBestOrder_16 (g_iconst ki_1 dX7_findBestOrder_17 (g_iadd dX7_findBestOrder_18 (g_aload0 dX7_findBestOrder_19 (g_get fl_X7_10 0 rfl rfl dX7_findBestOrder_20 (g_get fl_X7_110 1 rfl rfl dX7_findBestOrder_23 (g_icmp_ge (tgt := 112) dX7_findBestOrder_26 (by decide) (fun h26 => g_aload0 dX7_findBestOrder_112 (g_get fl_X7_36 0 rfl rfl dX7_findBestOrder_113 (?c116_2))) (fun h26 => ?s29_2)))))))
      case s29_2 => omega
      case c116_2 =>
        refine g_V0i dX7_findBestOrder_116 mv_X7_249 19 rfl rfl rfl (Nat.le_of_ble_eq_true rfl) (Nat.le_of_ble_eq_true rfl) ((c_search (d := d) hN hn hprs).frame (X := ((a 0, dolO a im tc) :: (packW E a 1 kd pc nb hs od (nI D.1.length) (nI r) ++ rowW E a 7 pl ov on ot be (nI L.length))) ++ ((a 48, raT E a) :: (a 49, ia E 6 nm) :: txtW E a (54 + 4 * r) code ends stk (nI C.length) hh)) (Y := [])) (fun r1 w1 hq => ?_)
        obtain ⟨w3, ⟨fd', tr', le', rfl, q0, q1⟩, rfl⟩ := hq
        refine g_iret rfl dX7_findBestOrder_119 (Nat.le_of_ble_eq_true rfl) (Nat.le_of_ble_eq_true rfl) ?q119_3
        unfold srF at hQ
        by_cases hz : D.1.length = 0
        · rw [if_pos hz] at hQ
          refine hQ _ _ ⟨q0 hz, _, _, fd', _, _, _, _, hA', ?_, rfl⟩
          intro i x h
          simp at h
        · rw [if_neg hz] at hQ
          exact hQ _ _ ⟨(q1 hz).1, _, _, fd', _, _, _, _, hA', (q1 hz).2, rfl⟩
    | succ t ih =>
      intro p w1 pr l2 l3 l4 hp hA hdn
      have ep : (nI p + 1).toInt = (p : Int) + 1 := by rw [nI_1, t_nI (by omega)]; omega
      have mid : ∀ u x w1 pr l3 l4, x + u = D.1.length → Arl E a D r L im tc C e w1 → dnB D.1.length (prB D C e) p x 0 pr → G E mX7_findBestOrder (d + 11) 0 0 A Q 0 0 31 [some (.ref (a 0)), some (.int (nI p)), some (.int (nI x)), l3, l4] [] (w1 ++ ordW E a 37 en' fd pr tr (nI D.1.length) le) := by
        clear hA hdn
        intro u
        induction u with
        | zero =>
          intro x w1 pr l3 l4 hx hA hdn
          have hA' := hA
          obtain ⟨kd, pc, nb, hs, od, pl, ov, on, ot, be, nm, code, ends, stk, hh, rfl, hD, j5, hpk⟩ := hA.lit
          have ex := t_nI (n := x) (by omega)
          refine g_iload2 dX7_findBestOrder_31 (g_aload0 dX7_findBestOrder_32 (g_get fl_X7_10 0 rfl rfl dX7_findBestOrder_33 (g_get fl_X7_110 1 rfl rfl dX7_findBestOrder_36 (g_icmp_ge (tgt := 106) dX7_findBestOrder_39 (by decide) (fun h39 => g_iinc1 ki_1 dX7_findBestOrder_106 rfl rfl (g_goto (tgt := 16) dX7_findBestOrder_109 (by decide) (?s16_4))) (fun h39 => ?s42_4)))))
          case s42_4 => omega
          case s16_4 =>
            rw [nI_1]
            exact ih (p + 1) _ _ _ _ _ (by omega) hA' (fun p' x' y' k1 k2 k3 k4 k5 => hdn p' x' y' k1 k2 k3 k4 (by omega))
        | succ u ihu =>
          intro x w1 pr l3 l4 hx hA hdn
          have ex := t_nI (n := x) (by omega)
          have inner : ∀ v y w1 pr l4, y + v = D.1.length → Arl E a D r L im tc C e w1 → dnB D.1.length (prB D C e) p x y pr → G E mX7_findBestOrder (d + 11) 0 0 A Q 0 0 44 [some (.ref (a 0)), some (.int (nI p)), some (.int (nI x)), some (.int (nI y)), l4] [] (w1 ++ ordW E a 37 en' fd pr tr (nI D.1.length) le) := by
            clear hA hdn
            intro v
            induction v with
            | zero =>
              intro y w1 pr l4 hy hA hdn
              have hA' := hA
              obtain ⟨kd, pc, nb, hs, od, pl, ov, on, ot, be, nm, code, ends, stk, hh, rfl, hD, j5, hpk⟩ := hA.lit
              have ey := t_nI (n := y) (by omega)
              refine g_iload3 dX7_findBestOrder_44 (g_aload0 dX7_findBestOrder_45 (g_get fl_X7_10 0 rfl rfl dX7_findBestOrder_46 (g_get fl_X7_110 1 rfl rfl dX7_findBestOrder_49 (g_icmp_ge (tgt := 100) dX7_findBestOrder_52 (by decide) (fun h52 => g_iinc2 ki_1 dX7_findBestOrder_100 rfl rfl (g_goto (tgt := 31) dX7_findBestOrder_103 (by decide) (?s31_5))) (fun h52 => ?s55_5)))))
              case s55_5 => omega
              case s31_5 =>
                rw [nI_1]
                exact ihu (x + 1) _ _ _ _ (by omega) hA' (fun p' x' y' k1 k2 k3 k4 k5 => hdn p' x' y' k1 k2 k3 k4 (by omega))
            | succ v ihv =>
              intro y w1 pr l4 hy hA hdn
              have hA' := hA
              obtain ⟨kd, pc, nb, hs, od, pl, ov, on, ot, be, nm, code, ends, stk, hh, rfl, hD, j5, hpk⟩ := hA.lit
              have ey := t_nI (n := y) (by omega)
              have after : ∀ hd, hd = (if x < y then p else p + 1) → G E mX7_findBestOrder (d + 11) 0 0 A Q 0 0 74 [some (.ref (a 0)), some (.int (nI p)), some (.int (nI x)), some (.int (nI y)), some (.int (nI hd))] [] ((((a 0, dolO a im tc) :: (packW E a 1 kd pc nb hs od (nI D.1.length) (nI r) ++ rowW E a 7 pl ov on ot be (nI L.length))) ++ ((a 48, raT E a) :: (a 49, ia E 6 nm) :: txtW E a (54 + 4 * r) code ends stk (nI C.length) hh)) ++ ordW E a 37 en' fd pr tr (nI D.1.length) le) := by
                intro hd hhd
                refine g_aload0 dX7_findBestOrder_74 (g_get fl_X7_36 0 rfl rfl dX7_findBestOrder_75 (g_iload1 dX7_findBestOrder_78 (g_iload2 dX7_findBestOrder_79 (g_iload3 dX7_findBestOrder_80 (g_aload0 dX7_findBestOrder_81 (g_iconst ki_0 dX7_findBestOrder_82 (g_iload2 dX7_findBestOrder_83 (g_iload3 dX7_findBestOrder_84 (g_iconst ki_1 dX7_findBestOrder_85 (g_iload4 dX7_findBestOrder_86 (?c88_6)))))))))))
                refine g_V5i dX7_findBestOrder_88 mv_X7_241 0 rfl rfl rfl (Nat.le_of_ble_eq_true rfl) (Nat.le_of_ble_eq_true rfl) ((c_ruled (d := d + 5) hE hA' (part := 0) (x := x) (y := y) (by omega) (by omega) (by omega) 1 (nI hd)).frame (X := []) (Y := ordW E a 37 en' fd pr tr (nI D.1.length) le)) (fun r1 w1 hq => ?_)
                obtain ⟨w3, ⟨hz, hA3⟩, rfl⟩ := hq
                have hA3' := hA3
                obtain ⟨kd3, pc3, nb3, hs3, od3, pl3, ov3, on3, ot3, be3, nm3, code3, ends3, stk3, hh3, rfl, hD3, -, -⟩ := hA3.lit
                have hrl := rlI_0 C e (nmF D.1.length D.2.1 x y 1 (nI hd)) (part := 0) (by omega)
                have hv : r1 = nI (prB D C e p x y) := by
                  rw [t_of (a := r1) (by omega), hz, prB, ← hhd]
                refine g_V4v dX7_findBestOrder_91 mv_X7_326 19 rfl rfl rfl (Nat.le_of_ble_eq_true rfl) (Nat.le_of_ble_eq_true rfl) ((c_price (d := d + 8) hN (p := p) (f := x) (l := y) (by omega) (by omega) (by omega) _ _).frame (X := ((a 0, dolO a im tc) :: (packW E a 1 kd3 pc3 nb3 hs3 od3 (nI D.1.length) (nI r) ++ rowW E a 7 pl3 ov3 on3 ot3 be3 (nI L.length))) ++ ((a 48, raT E a) :: (a 49, ia E 6 nm3) :: txtW E a (54 + 4 * r) code3 ends3 stk3 (nI C.length) hh3)) (Y := [])) (fun w1 hq => ?_)
                obtain ⟨w4, rfl, rfl⟩ := hq
                refine g_iinc3 ki_1 dX7_findBestOrder_94 rfl rfl (g_goto (tgt := 44) dX7_findBestOrder_97 (by decide) (?s44_7))
                rw [nI_1]
                exact ihv (y + 1) _ _ _ (by omega) hA3' (hdn.set hn (by omega) (by omega) hv)
              refine g_iload3 dX7_findBestOrder_44 (g_aload0 dX7_findBestOrder_45 (g_get fl_X7_10 0 rfl rfl dX7_findBestOrder_46 (g_get fl_X7_110 1 rfl rfl dX7_findBestOrder_49 (g_icmp_ge (tgt := 100) dX7_findBestOrder_52 (by decide) (fun h52 => ?s100_8) (fun h52 => g_iload2 dX7_findBestOrder_55 (g_iload3 dX7_findBestOrder_56 (g_icmp_eq (tgt := 94) dX7_findBestOrder_57 (by decide) (fun h57 => g_iinc3 ki_1 dX7_findBestOrder_94 rfl rfl (g_goto (tgt := 44) dX7_findBestOrder_97 (by decide) (?s44_8))) (fun h57 => g_iload2 dX7_findBestOrder_60 (g_iload3 dX7_findBestOrder_61 (g_icmp_ge (tgt := 69) dX7_findBestOrder_62 (by decide) (fun h62 => g_iload1 dX7_findBestOrder_69 (g_iconst ki_1 dX7_findBestOrder_70 (g_iadd dX7_findBestOrder_71 (g_istore4 dX7_findBestOrder_72 rfl rfl (?s74_8))))) (fun h62 => g_iload1 dX7_findBestOrder_65 (g_goto (tgt := 72) dX7_findBestOrder_66 (by decide) (g_istore4 dX7_findBestOrder_72 rfl rfl (?s74_8'))))))))))))))
              case s100_8 => omega
              case s44_8 =>
                rw [nI_1]
                exact ihv (y + 1) _ _ _ (by omega) hA' (hdn.skip (by omega))
              case s74_8 =>
                rw [nI_1]
                exact after (p + 1) (by rw [if_neg (by omega)])
              case s74_8' => exact after p (by rw [if_pos (by omega)])
          have hA' := hA
          obtain ⟨kd, pc, nb, hs, od, pl, ov, on, ot, be, nm, code, ends, stk, hh, rfl, hD, j5, hpk⟩ := hA.lit
          refine g_iload2 dX7_findBestOrder_31 (g_aload0 dX7_findBestOrder_32 (g_get fl_X7_10 0 rfl rfl dX7_findBestOrder_33 (g_get fl_X7_110 1 rfl rfl dX7_findBestOrder_36 (g_icmp_ge (tgt := 106) dX7_findBestOrder_39 (by decide) (fun h39 => ?s106_9) (fun h39 => g_iconst ki_0 dX7_findBestOrder_42 (g_istore3 dX7_findBestOrder_43 rfl rfl (?s44_9)))))))
          case s106_9 => omega
          case s44_9 => exact inner D.1.length 0 _ _ _ (by omega) hA' hdn
      have hA' := hA
      obtain ⟨kd, pc, nb, hs, od, pl, ov, on, ot, be, nm, code, ends, stk, hh, rfl, hD, j5, hpk⟩ := hA.lit
      refine g_iload1 dX7_findBestOrder_16 (g_iconst ki_1 dX7_findBestOrder_17 (g_iadd dX7_findBestOrder_18 (g_aload0 dX7_findBestOrder_19 (g_get fl_X7_10 0 rfl rfl dX7_findBestOrder_20 (g_get fl_X7_110 1 rfl rfl dX7_findBestOrder_23 (g_icmp_ge (tgt := 112) dX7_findBestOrder_26 (by decide) (fun h26 => ?s112_10) (fun h26 => g_iconst ki_0 dX7_findBestOrder_29 (g_istore2 dX7_findBestOrder_30 rfl rfl (?s31_10)))))))))
      case s112_10 => omega
      case s31_10 => exact mid D.1.length 0 _ _ _ _ (by omega) hA' hdn
  refine g_iconst ki_0 dX7_findBestOrder_14 (g_istore1 dX7_findBestOrder_15 rfl rfl (?s16_11))
  exact outer (D.1.length - 1) 0 _ _ _ _ _ (by omega) hA0 (fun p' x' y' k1 k2 k3 k4 k5 => by omega)
end S57
