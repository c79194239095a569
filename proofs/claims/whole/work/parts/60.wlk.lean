/-! walk -/
def prW (D : Dg) (C : List Int32) (e : Nat → Nat) (x y : Nat) : Nat := (rlI C e 0 (nmF D.1.length D.2.1 (min x y) (max x y) 1 (nI (plN D (min x y))))).toNat
def dnW (n : Nat) (f : Nat → Nat → Nat) (x y : Nat) (pr : Nat → Int32) : Prop := ∀ p x' y', p < n → x' < y' → y' < n → (x' < x ∨ x' = x ∧ y' < y) → pr (sltN p x' y') = nI (f x' y') ∧ pr (sltN p y' x') = nI (f x' y')
theorem dnW.set {n x y : Nat} {f : Nat → Nat → Nat} {pr pr1 pr2 : Nat → Int32} {v : Int32} (hn : n ≤ 6) (hxy : x < y) (hy : y < n) (h : dnW n f x y pr) (hv : v = nI (f x y)) (h1 : ∀ p, p < n → pr1 (sltN p x y) = v) (h2 : ∀ j, (∀ p, p < n → j ≠ sltN p x y) → pr1 j = pr j) (h3 : ∀ p, p < n → pr2 (sltN p y x) = v) (h4 : ∀ j, (∀ p, p < n → j ≠ sltN p y x) → pr2 j = pr1 j) : dnW n f x (y + 1) pr2 := by
  intro p x' y' k1 k2 k3 k4
  have ne : ∀ {p p2 u v u' v' : Nat}, u < 6 → v < 6 → u' < 6 → v' < 6 → ¬ (u = u' ∧ v = v') → sltN p u v ≠ sltN p2 u' v' := fun a1 a2 a3 a4 q q2 => q (slt_inj a1 a2 a3 a4 q2).2
  by_cases q : x' = x ∧ y' = y
  · obtain ⟨rfl, rfl⟩ := q
    refine ⟨?_, ?_⟩
    · rw [h4 _ (fun p2 hp2 => ne (by omega) (by omega) (by omega) (by omega) (by omega)), h1 p k1, hv]
    · rw [h3 p k1, hv]
  · have := h p x' y' k1 k2 k3 (by omega)
    refine ⟨?_, ?_⟩
    · rw [h4 _ (fun p2 hp2 => ne (by omega) (by omega) (by omega) (by omega) (by omega)), h2 _ (fun p2 hp2 => ne (by omega) (by omega) (by omega) (by omega) (by omega))]
      exact this.1
    · rw [h4 _ (fun p2 hp2 => ne (by omega) (by omega) (by omega) (by omega) (by omega)), h2 _ (fun p2 hp2 => ne (by omega) (by omega) (by omega) (by omega) (by omega))]
      exact this.2
section S60
variable {E : GE} {d : Nat} {a : Nat → Nat} {im tc : Int32} {w : va_W} {adK adV ta : Nat → Nat} {e : Nat → Nat} {C : List Int32} {D : Dg} {r : Nat} {L : List Cr} {F : List Nat}
set_option maxRecDepth 20000 in
set_option maxHeartbeats 4000000 in
theorem c_walk (hE : g_E E adK adV ta) (hw : Aor E a D r L im tc C e F w) : g_Ci E mX7_walk (d + 11) [.ref (a 0)] w (fun z w' => z = nI (srF D.1.length (fun _ => prW D C e) (fun _ => 0)).1 ∧ Aor E a D r L im tc C e (srF D.1.length (fun _ => prW D C e) (fun _ => 0)).2 w') := by
  have hN := g_E_N hE
  obtain ⟨w1, en, fd, pr, tr, n0, le, hA, -, rfl⟩ := hw
  have hA0 := hA
  obtain ⟨kd, pc, nb, hs, od, pl, ov, on, ot, be, nm, code, ends, stk, hh, rfl, hD, j5, hpk⟩ := hA.lit
  have hn := hD.1
  have eD := t_nI (n := D.1.length) (by omega)
  refine g_enterI hN.1 (by decide) [some (.ref (a 0)), none, none, none] rfl (Nat.le_of_ble_eq_true rfl) (fun A Q hQ => ?_)
  have tc0 := tc_0; have tc1 := tc_1
  refine g_aload0 dX7_walk_0 (g_get fl_X7_36 0 rfl rfl dX7_walk_1 (g_aload0 dX7_walk_4 (g_get fl_X7_10 0 rfl rfl dX7_walk_5 (g_get fl_X7_110 1 rfl rfl dX7_walk_8 (?c11)))))
  refine g_V1v dX7_walk_11 mv_X7_238 19 rfl rfl rfl (Nat.le_of_ble_eq_true rfl) (Nat.le_of_ble_eq_true rfl) ((c_begin (d := d + 9) hN hn).frame (X := ((a 0, dolO a im tc) :: (packW E a 1 kd pc nb hs od (nI D.1.length) (nI r) ++ rowW E a 7 pl ov on ot be (nI L.length))) ++ ((a 48, raT E a) :: (a 49, ia E 6 nm) :: txtW E a (54 + 4 * r) code ends stk (nI C.length) hh)) (Y := [])) (fun w1 hq => ?_)
  obtain ⟨w3, ⟨en', rfl, hen⟩, rfl⟩ := hq
  have outer : ∀ t x w1 pr l2 l3, x + t = D.1.length → Arl E a D r L im tc C e w1 → dnW D.1.length (prW D C e) x 0 pr → G E mX7_walk (d + 11) 0 0 A Q 0 0 16 [some (.ref (a 0)), some (.int (nI x)), l2, l3] [] (w1 ++ ordW E a 37 en' fd pr tr (nI D.1.length) le) := by
    clear hA hpk
    intro t
    induction t with
    | zero =>
      intro x w1 pr l2 l3 hx hA hdn
      have hA' := hA
      obtain ⟨kd, pc, nb, hs, od, pl, ov, on, ot, be, nm, code, ends, stk, hh, rfl, hD, j5, hpk⟩ := hA.lit
      have ex := t_nI (n := x) (by omega)
      have hprs : prIs D.1.length (fun _ => prW D C e) (fun _ => 0) en' pr := by
        refine ⟨fun x hx => ⟨hen x (by omega), Nat.zero_le _⟩, fun p' f l k1 k2 k3 k4 => ⟨?_, ?_⟩⟩
        · by_cases q : f < l
          · exact (hdn p' f l (by omega) q k3 (by omega)).1
          · have := (hdn p' l f (by omega) (by omega) k2 (by omega)).2
            rw [this]
            show nI (prW D C e l f) = nI (prW D C e f l)
            unfold prW
            rw [Nat.min_comm, Nat.max_comm]
        · have := rlI_0 C e (nmF D.1.length D.2.1 (min f l) (max f l) 1 (nI (plN D (min f l)))) (part := 0) (by omega)
          show prW D C e f l ≤ 99
          unfold prW
          omega
      refine g_iload1 dX7_walk_16 (g_aload0 dX7_walk_17 (g_get fl_X7_10 0 rfl rfl dX7_walk_18 (g_get fl_X7_110 1 rfl rfl dX7_walk_21 (g_icmp_ge (tgt := 91) dX7_walk_24 (by decide) (fun h24 => g_aload0 dX7_walk_91 (g_get fl_X7_36 0 rfl rfl dX7_walk_92 (?c95_2))) (fun h24 => ?s27_2)))))
      case s27_2 => omega
      case c95_2 =>
        refine g_V0i dX7_walk_95 mv_X7_249 19 rfl rfl rfl (Nat.le_of_ble_eq_true rfl) (Nat.le_of_ble_eq_true rfl) ((c_search (d := d) hN hn hprs).frame (X := ((a 0, dolO a im tc) :: (packW E a 1 kd pc nb hs od (nI D.1.length) (nI r) ++ rowW E a 7 pl ov on ot be (nI L.length))) ++ ((a 48, raT E a) :: (a 49, ia E 6 nm) :: txtW E a (54 + 4 * r) code ends stk (nI C.length) hh)) (Y := [])) (fun r1 w1 hq => ?_)
        obtain ⟨w3, ⟨fd', tr', le', rfl, q0, q1⟩, rfl⟩ := hq
        refine g_iret rfl dX7_walk_98 (Nat.le_of_ble_eq_true rfl) (Nat.le_of_ble_eq_true rfl) ?q98_3
        unfold srF at hQ
        by_cases hz : D.1.length = 0
        · rw [if_pos hz] at hQ
          refine hQ _ _ ⟨q0 hz, _, _, fd', _, _, _, _, hA', ?_, rfl⟩
          intro i x h
          simp at h
        · rw [if_neg hz] at hQ
          exact hQ _ _ ⟨(q1 hz).1, _, _, fd', _, _, _, _, hA', (q1 hz).2, rfl⟩
    | succ t ih =>
      intro x w1 pr l2 l3 hx hA hdn
      have ex := t_nI (n := x) (by omega)
      have inner : ∀ v y w1 pr l3, y + v = D.1.length → x < y → Arl E a D r L im tc C e w1 → dnW D.1.length (prW D C e) x y pr → G E mX7_walk (d + 11) 0 0 A Q 0 0 31 [some (.ref (a 0)), some (.int (nI x)), some (.int (nI y)), l3] [] (w1 ++ ordW E a 37 en' fd pr tr (nI D.1.length) le) := by
        clear hA hdn
        intro v
        induction v with
        | zero =>
          intro y w1 pr l3 hy hxy hA hdn
          have hA' := hA
          obtain ⟨kd, pc, nb, hs, od, pl, ov, on, ot, be, nm, code, ends, stk, hh, rfl, hD, j5, hpk⟩ := hA.lit
          have ey := t_nI (n := y) (by omega)
          refine g_iload2 dX7_walk_31 (g_aload0 dX7_walk_32 (g_get fl_X7_10 0 rfl rfl dX7_walk_33 (g_get fl_X7_110 1 rfl rfl dX7_walk_36 (g_icmp_ge (tgt := 85) dX7_walk_39 (by decide) (fun h39 => g_iinc1 ki_1 dX7_walk_85 rfl rfl (g_goto (tgt := 16) dX7_walk_88 (by decide) (?s16_4))) (fun h39 => ?s42_4)))))
          case s42_4 => omega
          case s16_4 =>
            rw [nI_1]
            exact ih (x + 1) _ _ _ _ (by omega) hA' (fun p' x' y' k1 k2 k3 k5 => hdn p' x' y' k1 k2 k3 (by omega))
        | succ v ihv =>
          intro y w1 pr l3 hy hxy hA hdn
          have hA' := hA
          obtain ⟨kd, pc, nb, hs, od, pl, ov, on, ot, be, nm, code, ends, stk, hh, rfl, hD, j5, hpk⟩ := hA.lit
          have ey := t_nI (n := y) (by omega)
          refine g_iload2 dX7_walk_31 (g_aload0 dX7_walk_32 (g_get fl_X7_10 0 rfl rfl dX7_walk_33 (g_get fl_X7_110 1 rfl rfl dX7_walk_36 (g_icmp_ge (tgt := 85) dX7_walk_39 (by decide) (fun h39 => ?s85_5) (fun h39 => g_aload0 dX7_walk_42 (g_iconst ki_0 dX7_walk_43 (g_iload1 dX7_walk_44 (g_iload2 dX7_walk_45 (g_iconst ki_1 dX7_walk_46 (g_aload0 dX7_walk_47 (g_get fl_X7_10 0 rfl rfl dX7_walk_48 (g_iload1 dX7_walk_51 (?c52_5)))))))))))))
          case s85_5 => omega
          case c52_5 =>
            refine g_V1i dX7_walk_52 mv_X7_135 1 rfl rfl rfl (Nat.le_of_ble_eq_true rfl) (Nat.le_of_ble_eq_true rfl) ((hA'.place (d := d + 9) hN (x := x) (by omega)).frame (X := []) (Y := ordW E a 37 en' fd pr tr (nI D.1.length) le)) (fun r1 w1 hq => ?_)
            obtain ⟨w3, ⟨rfl, rfl⟩, rfl⟩ := hq
            refine g_V5i dX7_walk_55 mv_X7_241 0 rfl rfl rfl (Nat.le_of_ble_eq_true rfl) (Nat.le_of_ble_eq_true rfl) ((c_ruled (d := d + 5) hE hA' (part := 0) (x := x) (y := y) (by omega) (by omega) (by omega) 1 (nI (plN D x))).frame (X := []) (Y := ordW E a 37 en' fd pr tr (nI D.1.length) le)) (fun r1 w1 hq => ?_)
            obtain ⟨w3, ⟨hz, hA3⟩, rfl⟩ := hq
            have hA3' := hA3
            obtain ⟨kd3, pc3, nb3, hs3, od3, pl3, ov3, on3, ot3, be3, nm3, code3, ends3, stk3, hh3, rfl, hD3, -, -⟩ := hA3.lit
            have hrl := rlI_0 C e (nmF D.1.length D.2.1 x y 1 (nI (plN D x))) (part := 0) (by omega)
            have hv : r1 = nI (prW D C e x y) := by
              rw [t_of (a := r1) (by omega), hz, prW, Nat.min_eq_left (by omega), Nat.max_eq_right (by omega)]
            refine g_istore3 dX7_walk_58 rfl rfl (g_aload0 dX7_walk_59 (g_get fl_X7_36 0 rfl rfl dX7_walk_60 (g_iload1 dX7_walk_63 (g_iload2 dX7_walk_64 (g_iload3 dX7_walk_65 (?c66_6))))))
            refine g_V3v dX7_walk_66 mv_X7_245 19 rfl rfl rfl (Nat.le_of_ble_eq_true rfl) (Nat.le_of_ble_eq_true rfl) ((c_priceEverywhere (d := d + 7) hN (f := x) (l := y) hn (by omega) (by omega) _).frame (X := ((a 0, dolO a im tc) :: (packW E a 1 kd3 pc3 nb3 hs3 od3 (nI D.1.length) (nI r) ++ rowW E a 7 pl3 ov3 on3 ot3 be3 (nI L.length))) ++ ((a 48, raT E a) :: (a 49, ia E 6 nm3) :: txtW E a (54 + 4 * r) code3 ends3 stk3 (nI C.length) hh3)) (Y := [])) (fun w1 hq => ?_)
            obtain ⟨w4, ⟨pr1, rfl, p1, p2⟩, rfl⟩ := hq
            refine g_aload0 dX7_walk_69 (g_get fl_X7_36 0 rfl rfl dX7_walk_70 (g_iload2 dX7_walk_73 (g_iload1 dX7_walk_74 (g_iload3 dX7_walk_75 (?c76_7)))))
            refine g_V3v dX7_walk_76 mv_X7_245 19 rfl rfl rfl (Nat.le_of_ble_eq_true rfl) (Nat.le_of_ble_eq_true rfl) ((c_priceEverywhere (d := d + 7) hN (f := y) (l := x) hn (by omega) (by omega) _).frame (X := ((a 0, dolO a im tc) :: (packW E a 1 kd3 pc3 nb3 hs3 od3 (nI D.1.length) (nI r) ++ rowW E a 7 pl3 ov3 on3 ot3 be3 (nI L.length))) ++ ((a 48, raT E a) :: (a 49, ia E 6 nm3) :: txtW E a (54 + 4 * r) code3 ends3 stk3 (nI C.length) hh3)) (Y := [])) (fun w1 hq => ?_)
            obtain ⟨w4, ⟨pr2, rfl, p3, p4⟩, rfl⟩ := hq
            refine g_iinc2 ki_1 dX7_walk_79 rfl rfl (g_goto (tgt := 31) dX7_walk_82 (by decide) (?s31_8))
            rw [nI_1]
            exact ihv (y + 1) _ _ _ (by omega) (by omega) hA3' (hdn.set hn hxy (by omega) hv p1 p2 p3 p4)
      have hA' := hA
      obtain ⟨kd, pc, nb, hs, od, pl, ov, on, ot, be, nm, code, ends, stk, hh, rfl, hD, j5, hpk⟩ := hA.lit
      refine g_iload1 dX7_walk_16 (g_aload0 dX7_walk_17 (g_get fl_X7_10 0 rfl rfl dX7_walk_18 (g_get fl_X7_110 1 rfl rfl dX7_walk_21 (g_icmp_ge (tgt := 91) dX7_walk_24 (by decide) (fun h24 => ?s91_9) (fun h24 => g_iload1 dX7_walk_27 (g_iconst ki_1 dX7_walk_28 (g_iadd dX7_walk_29 (g_istore2 dX7_walk_30 rfl rfl (?s31_9)))))))))
      case s91_9 => omega
      case s31_9 =>
        rw [nI_1]
        exact inner (D.1.length - (x + 1)) (x + 1) _ _ _ (by omega) (by omega) hA' (fun p' x' y' k1 k2 k3 k4 => hdn p' x' y' k1 k2 k3 (by omega))
  refine g_iconst ki_0 dX7_walk_14 (g_istore1 dX7_walk_15 rfl rfl (?s16_10))
  exact outer D.1.length 0 _ _ _ _ (by omega) hA0 (fun p' x' y' k1 k2 k3 k4 => by omega)
end S60
