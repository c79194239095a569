abbrev mK8 : List Nat := [16, 17, 18, 19, 20, 21, 22, 23, 24, 25, 26, 28, 29, 30, 44, 45]
def dnO (n : Nat) (W : Nat → Nat → Int) (x y : Nat) (F : Nat → Int32) : Prop := ∀ x' y', x' < n → y' < n → x' ≠ y' → (x' < x ∨ x' = x ∧ y' < y) → (F (6 * x' + y')).toInt = W x' y'
def pwI (D : Dg) (C : List Int32) (e : Nat → Nat) (x y : Nat) : Int := (prW D C e x y : Nat)
theorem dnO.set {n x y : Nat} {W : Nat → Nat → Int} {F : Nat → Int32} {z : Int32} (hn : n ≤ 6) (hx : x < n) (hy : y < n) (h : dnO n W x y F) (hz : x ≠ y → z.toInt = W x y) : dnO n W x (y + 1) (upd F (6 * x + y) z) := by
  intro x' y' k1 k2 k3 k4
  by_cases q : 6 * x' + y' = 6 * x + y
  · have e1 : x' = x := by omega
    have e2 : y' = y := by omega
    subst e1 e2
    rw [upd_s]; exact hz k3
  · rw [upd_o q]
    refine h x' y' k1 k2 k3 ?_
    rcases k4 with k4 | ⟨k4, k5⟩
    · exact Or.inl k4
    · refine Or.inr ⟨k4, ?_⟩
      have : y' ≠ y := fun hh => q (by rw [k4, hh])
      omega
section S97
variable {E : GE} {d : Nat} {b : Nat → Nat} {v : Nat → Int32} {t : Int64} {f : Nat → Nat → Int32} {D : Dg} {B : List Nat} {C : List Int32} {e : Nat → Nat} {ru : Nat}
theorem ix_6 {x y : Nat} (hx : x < 6) (hy : y < 6) : (6 * nI x + nI y).toInt = ((6 * x + y : Nat) : Int) := by
  have : (6 : Int32) * nI x = nI (6 * x) := by rw [← pk_mul]; rfl
  rw [this, nI_add, t_nI (by omega)]
set_option maxRecDepth 20000 in
set_option maxHeartbeats 600000 in
theorem c_X8_fetching (hN : g_N E) (hD : dgOK D) (hM : MD v f D) (hr : v 4 = nI ru) (hr6 : ru < 6) (hTB : TB B ru f) (hX : TX B C e) : g_Cv E mX8_fetching (d + 64) [.ref (b 0)] (mW E b v t f) (fun w => ∃ v' t' f', w = mW E b v' t' f' ∧ agV mK8 v v' ∧ agF [42, 43, 46] f f' ∧ v' 44 = nI (srF D.1.length (fun _ => hdN D) (hoN D)).1 ∧ Lst (srF D.1.length (fun _ => hdN D) (hoN D)).2 (f' 43) ∧ v' 45 = nI (srF D.1.length (fun _ => prW D C e) (fun _ => 0)).1) := by
  have hn := hD.1
  have hf1 := sr_found hn (fun _ => hdN D) (hoN D) (fun p x y _ hx hy => hd_le hD hx hy) (fun x hx => ho_le hD hx)
  have hs1 := srF_en hn (fun _ => hdN D) (hoN D) (fun p x y _ hx hy => hd_le hD hx hy) (fun x hx => ho_le hD hx)
  have hs2 := srF_en hn (fun _ => prW D C e) (fun _ => 0) (fun p x y _ _ _ => pw_le D C e x y) (fun _ _ => Nat.zero_le _)
  have hf2 := sr_found hn (fun _ => prW D C e) (fun _ => 0) (fun p x y _ _ _ => pw_le D C e x y) (fun _ _ => Nat.zero_le _)
  refine g_enterV hN.1 (by decide) [some (.ref (b 0)), none, none] rfl (Nat.le_of_ble_eq_true rfl) (fun A Q hQ => ?_)
  have tcm1 := tc_m1; have tc0 := tc_0; have tc1 := tc_1; have tc6 := tc_6
  have outer : ∀ u x v2 t2 f2 l2, x + u = D.1.length → agV mK3 v v2 → agF [46] f f2 → dnO D.1.length (pwI D C e) x 0 (f2 46) → G E mX8_fetching (d + 64) 0 0 A Q 0 0 2 [some (.ref (b 0)), some (.int (nI x)), l2] [] (mW E b v2 t2 f2) := by
    intro u
    induction u with
    | zero =>
      intro x v2 t2 f2 l2 hx h1 h2 h3
      have ex := t_nI (n := x) (by omega)
      have e12 : (v2 12).toInt = D.1.length := by rw [h1.at 12 rfl, hM.1, t_nI (by omega)]
      refine g_iload1 dX8_fetching_2 (g_aload0 dX8_fetching_3 (g_mget fl_X8_103 mg_12 dX8_fetching_4 (g_icmp_ge (tgt := 60) dX8_fetching_7 (by decide) (fun h7 => g_aload0 dX8_fetching_60 (g_iconst ki_m1 dX8_fetching_61 (g_mput fl_X8_327 fp_7_44 ms_44 rfl rfl rfl dX8_fetching_62 (g_aload0 dX8_fetching_65 (g_iconst ki_m1 dX8_fetching_66 (g_mput fl_X8_330 fp_7_45 ms_45 rfl rfl rfl dX8_fetching_67 (g_aload0 dX8_fetching_70 (g_iconst ki_0 dX8_fetching_71 (g_iconst ki_0 dX8_fetching_72 (g_iconst ki_0 dX8_fetching_73 (g_iconst ki_0 dX8_fetching_74 (?c75)))))))))))) (fun h7 => ?s10))))
      case s10 => omega
      case c75 =>
        have hO : ODd D C e (f2 46) := by
          intro x' y' k1 k2 k3
          have := h3 x' y' k1 k2 k3 (by omega)
          have hp := pw_le D C e x' y'
          unfold pwI at this
          rw [t_of (a := f2 46 (6 * x' + y')) (by omega), this]
          rfl
        have hv : agV mK8 v (upd (upd v2 44 (-1)) 45 (-1)) := ((h1.wk rfl).up 44 _ rfl).up 45 _ rfl
        have hc := c_X8_fetches (b := b) (C := C) (e := e) (d := d + 60 - D.1.length) hN hD D.1.length [] (2147483647, []) (2147483647, []) (upd (upd v2 44 (-1)) 45 (-1)) t2 f2 (by simp) (by simp) (fun y hy => by cases hy) (hM.ag hv h2 rfl rfl) (fun j x hj => by simp at hj) hO ⟨by rw [upd_o (by decide), upd_s]; exact (if_pos rfl).symm, fun j x hj => by simp at hj, Nat.le_refl _⟩ ⟨by rw [upd_s]; exact (if_pos rfl).symm, Nat.le_refl _⟩
        rw [show d + 60 - D.1.length + D.1.length + 3 = d + 63 by omega] at hc
        unfold cfN coN at hc
        rw [← hs1, ← hs2] at hc
        refine g_V4v dX8_fetching_75 mv_X8_333 0 rfl rfl rfl (Nat.le_of_ble_eq_true rfl) (Nat.le_of_ble_eq_true rfl) (hc) (fun w1 hq => ?_)
        obtain ⟨v3, f3, rfl, g1, g2, g3, g4, g5⟩ := hq
        refine g_vret rfl dX8_fetching_78 (Nat.le_of_ble_eq_true rfl) (Nat.le_of_ble_eq_true rfl) ?q78_2
        refine hQ _ ⟨v3, t2, f3, rfl, hv.tr (g1.wk rfl), (h2.wk rfl).tr (g2.wk rfl), ?_, g4.2.1, ?_⟩
        · have := g4.1
          unfold boI at this
          rw [if_neg (by omega)] at this
          exact this
        · have := g5.1
          unfold boI at this
          rw [if_neg (by omega)] at this
          exact this
    | succ u ih =>
      intro x v2 t2 f2 l2 hx h1 h2 h3
      have ex := t_nI (n := x) (by omega)
      have inner : ∀ w y v2 t2 f2, y + w = D.1.length → agV mK3 v v2 → agF [46] f f2 → dnO D.1.length (pwI D C e) x y (f2 46) → G E mX8_fetching (d + 64) 0 0 A Q 0 0 12 [some (.ref (b 0)), some (.int (nI x)), some (.int (nI y))] [] (mW E b v2 t2 f2) := by
        intro w
        induction w with
        | zero =>
          intro y v2 t2 f2 hy h1 h2 h3
          have ey := t_nI (n := y) (by omega)
          have e12 : (v2 12).toInt = D.1.length := by rw [h1.at 12 rfl, hM.1, t_nI (by omega)]
          refine g_iload2 dX8_fetching_12 (g_aload0 dX8_fetching_13 (g_mget fl_X8_103 mg_12 dX8_fetching_14 (g_icmp_ge (tgt := 54) dX8_fetching_17 (by decide) (fun h17 => g_iinc1 ki_1 dX8_fetching_54 rfl rfl (g_goto (tgt := 2) dX8_fetching_57 (by decide) (?s2_3))) (fun h17 => ?s20_3))))
          case s20_3 => omega
          case s2_3 =>
            rw [nI_1]
            refine ih (x + 1) v2 t2 f2 _ (by omega) h1 h2 ?_
            intro x' y' k1 k2 k3 k4
            exact h3 x' y' k1 k2 k3 (by omega)
        | succ w ihw =>
          intro y v2 t2 f2 hy h1 h2 h3
          have ey := t_nI (n := y) (by omega)
          have e12 : (v2 12).toInt = D.1.length := by rw [h1.at 12 rfl, hM.1, t_nI (by omega)]
          have hix := ix_6 (x := x) (y := y) (by omega) (by omega)
          have nx : ∀ z v3 t3, agV mK3 v v3 → (x ≠ y → z.toInt = pwI D C e x y) → G E mX8_fetching (d + 64) 0 0 A Q 0 0 47 [some (.ref (b 0)), some (.int (nI x)), some (.int (nI y))] [.int z, .int (6 * nI x + nI y), .ref (b 20)] (mW E b v3 t3 f2) := by
            intro z v3 t3 g1 hz
            refine g_mis ma_46 mas_46 dX8_fetching_47 ?b47_4 (g_iinc2 ki_1 dX8_fetching_48 rfl rfl (g_goto (tgt := 12) dX8_fetching_51 (by decide) (?s12_4)))
            case b47_4 => rw [hix]; show _ ∧ _ < (36 : Int); omega
            case s12_4 =>
              rw [hix, Int.toNat_natCast, nI_1]
              refine ihw (y + 1) v3 t3 _ (by omega) g1 (h2.up 46 _ rfl) ?_
              rw [updA_s]
              exact h3.set hn (by omega) (by omega) hz
          refine g_iload2 dX8_fetching_12 (g_aload0 dX8_fetching_13 (g_mget fl_X8_103 mg_12 dX8_fetching_14 (g_icmp_ge (tgt := 54) dX8_fetching_17 (by decide) (fun h17 => ?s54_5) (fun h17 => g_aload0 dX8_fetching_20 (g_mget fl_X8_71 mg_46 dX8_fetching_21 (g_bipush kb_6 dX8_fetching_24 (g_iload1 dX8_fetching_26 (g_imul dX8_fetching_27 (g_iload2 dX8_fetching_28 (g_iadd dX8_fetching_29 (g_iload1 dX8_fetching_30 (g_iload2 dX8_fetching_31 (g_icmp_ne (tgt := 39) dX8_fetching_32 (by decide) (fun h32 => g_aload0 dX8_fetching_39 (g_iconst ki_0 dX8_fetching_40 (g_iload1 dX8_fetching_41 (g_iload2 dX8_fetching_42 (g_iconst ki_1 dX8_fetching_43 (?c44_5)))))) (fun h32 => g_iconst ki_0 dX8_fetching_35 (g_goto (tgt := 47) dX8_fetching_36 (by decide) (?s47_5))))))))))))))))
          case s54_5 => omega
          case s47_5 => exact nx 0 v2 t2 h1 (fun q => by omega)
          case c44_5 =>
            have hs := c_X8_says (b := b) (t := t2) (d := d) (part := 0) hN hD (hM.ag h1 h2 rfl rfl) (by rw [h1.at 4 rfl]; exact hr) hr6 (hTB.ag h2 rfl rfl) hX (by omega) (show x < D.1.length by omega) (show y < D.1.length by omega) 1
            refine g_V4i dX8_fetching_44 mv_X8_262 0 rfl rfl rfl (Nat.le_of_ble_eq_true rfl) (Nat.le_of_ble_eq_true rfl) (hs) (fun z1_ w1 hq => ?_)
            obtain ⟨hz, v3, t3, rfl, g1⟩ := hq
            refine nx z1_ v3 t3 (h1.tr g1) (fun _ => ?_)
            rw [hz, nmF_sym]
            have hp := rlI_0 C e (nmF D.1.length D.2.1 (min x y) (max x y) 1 (nI (plN D (min x y)))) (part := 0) (by omega)
            unfold pwI prW
            omega
      have e12 : (v2 12).toInt = D.1.length := by rw [h1.at 12 rfl, hM.1, t_nI (by omega)]
      refine g_iload1 dX8_fetching_2 (g_aload0 dX8_fetching_3 (g_mget fl_X8_103 mg_12 dX8_fetching_4 (g_icmp_ge (tgt := 60) dX8_fetching_7 (by decide) (fun h7 => ?s60_6) (fun h7 => g_iconst ki_0 dX8_fetching_10 (g_istore2 dX8_fetching_11 rfl rfl (?s12_6))))))
      case s60_6 => omega
      case s12_6 => exact inner D.1.length 0 v2 t2 f2 (by omega) h1 h2 h3
  refine g_iconst ki_0 dX8_fetching_0 (g_istore1 dX8_fetching_1 rfl rfl (?s2_7))
  exact outer D.1.length 0 v t f _ (by omega) agV.rf agF.rf (fun x' y' k1 k2 k3 k4 => by omega)
end S97
