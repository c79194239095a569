/-! unclip, drawn, chance -/
def unF (L : List Cr) (f s : Nat) : Nat := if bitN s < bitN f ∧ (woL s L).length = 0 then s else f
def unL (D : Dg) (L : List Cr) : Nat := (List.range (2 ^ D.1.length - 1)).foldl (unF L) (2 ^ D.1.length - 1)
def sUnclip (D : Dg) (L : List Cr) (v : Int32) : Int32 := if v.toInt = 0 then nI (unL D L) else if v.toInt = 1 then nI (bitN (unL D L)) else -2
theorem unF_lt (L : List Cr) : ∀ (l : List Nat) (f b : Nat), f < b → (∀ s ∈ l, s < b) → l.foldl (unF L) f < b
  | [], f, b, hf, _ => hf
  | s :: l, f, b, hf, h => by
    rw [List.foldl_cons]
    refine unF_lt L l _ b ?_ (fun x hx => h x (List.mem_cons_of_mem _ hx))
    unfold unF
    split
    · exact h s List.mem_cons_self
    · exact hf
/-- the next drawn number -/
def dzF (z : Int32) : Int32 := z * 1103515245 + 12345
def dzC (P : Nat) (z : Int32) : Cr := (z.toBitVec.toNat / 256 % P, z.toBitVec.toNat / 65536 % 2, 0, 0, 0)
def drF (P : Nat) : Nat → Int32 → List Cr → List Cr
  | 0, _, l => l
  | t + 1, z, l => drF P t (dzF z) (layL l (dzC P (dzF z)))
def sDr (D : Dg) (z : Int32) (m : Nat) : Nat := if D.1.length < 2 then 0 else (drF (D.1.length - 1) m z []).length
def sDrawn (D : Dg) (z m : Int32) : Int32 := if 0 ≤ m.toInt ∧ m.toInt ≤ 40 then nI (sDr D z m.toInt.toNat) else -2
theorem drF_len (P : Nat) : ∀ (t : Nat) (z : Int32) (l : List Cr), (drF P t z l).length ≤ l.length + t
  | 0, z, l => by unfold drF; omega
  | t + 1, z, l => by
    unfold drF
    have h1 := drF_len P t (dzF z) (layL l (dzC P (dzF z)))
    have h2 := layL_len l (dzC P (dzF z))
    omega
theorem usr_nI (z : Int32) (s : Int32) (k : Nat) (hk1 : 1 ≤ k) (hs : ((s.toUInt32 &&& Int32.toUInt32 31).toBitVec % 32).toNat = k) : usr z s = nI (z.toBitVec.toNat / 2 ^ k) := by
  have h := pk_ushr z s k hs
  apply Int32.toBitVec_inj.mp
  apply BitVec.eq_of_toNat_eq
  have h2 : z.toBitVec.toNat / 2 ^ k < 2 ^ 32 := Nat.lt_of_le_of_lt (Nat.div_le_self _ _) z.toBitVec.isLt
  rw [pk_tn h2]
  exact h
section S46
variable {E : GE} {d : Nat} {a : Nat → Nat} {D : Dg} {r : Nat} {L : List Cr} {im tc : Int32} {w : va_W}
set_option maxRecDepth 20000 in
set_option maxHeartbeats 1000000 in
theorem c_unclip (hN : g_N E) (hw : Ath E a D r L im tc w) (hv : plOK D.1.length L) (hD6 : D.1.length ≤ 6) (v : Int32) : g_Ci E mX7_unclip (d + 5) [.ref (a 0), .int v] w (fun y w' => y = sUnclip D L v ∧ Ath E a D r L im tc w') := by
  have hw' := hw
  obtain ⟨kd, pc, nb, hs, od, pl, ov, on, ot, be, pl2, ov2, on2, ot2, be2, n2, rfl⟩ := hw.lit
  have hp6 := two_pow6 hD6
  have hp0 : 0 < 2 ^ D.1.length := Nat.two_pow_pos _
  generalize hall : 2 ^ D.1.length - 1 = all at *
  have e1 := t_nI (n := all) (by omega)
  refine g_enterI hN.1 (by decide) [some (.ref (a 0)), some (.int v), none, none] rfl (Nat.le_of_ble_eq_true rfl) (fun A Q hQ => ?_)
  have tcm2 := tc_m2; have tc0 := tc_0; have tc1 := tc_1
  have z0 := g_biz (p := ((0 : Int32).toInt ≤ v.toInt ∧ v.toInt ≤ (1 : Int32).toInt))
  unfold sUnclip unL at hQ
  rw [hall] at hQ
  have ha : ∀ w, Ath E a D r L im tc w → g_Ci E mX7_allDogs (d + 4) [.ref (a 0)] w (fun x w' => x = nI all ∧ w' = w) := by
    intro w h
    have := Ath.all (d := d + 2) hN h
    rw [hall] at this
    exact this
  have loop : ∀ t i w, i + t = all → (v.toInt = 0 ∨ v.toInt = 1) → Ath E a D r L im tc w → G E mX7_unclip (d + 5) 0 0 A Q 0 0 19 [some (.ref (a 0)), some (.int v), some (.int (nI ((List.range i).foldl (unF L) all))), some (.int (nI i))] [] w := by
    intro t
    induction t with
    | zero =>
      intro i w hi hv01 hw
      have hw' := hw
      obtain ⟨kd, pc, nb, hs, od, pl, ov, on, ot, be, pl2, ov2, on2, ot2, be2, n2, rfl⟩ := hw.lit
      have ei := t_nI (n := i) (by omega)
      have hia : i = all := by omega
      subst hia
      have hlt := unF_lt L (List.range i) i 64 (by omega) (fun s hs => by have := List.mem_range.mp hs; omega)
      refine g_iload3 dX7_unclip_19 (g_aload0 dX7_unclip_20 (?c21))
      refine g_V0i dX7_unclip_21 mv_X7_189 0 rfl rfl rfl (Nat.le_of_ble_eq_true rfl) (Nat.le_of_ble_eq_true rfl) (ha _ hw') (fun r1 w1 hq => ?_)
      obtain ⟨rfl, rfl⟩ := hq
      refine g_icmp_ge (tgt := 54) dX7_unclip_24 (by decide) (fun h24 => g_iload1 dX7_unclip_54 (g_if_ne (tgt := 62) dX7_unclip_55 (by decide) (fun h55 => g_iload2 dX7_unclip_62 (r_J6_bitCount_0f7a4 hN mv_X7_195 dX7_unclip_63 (Nat.le_of_ble_eq_true rfl) (Nat.le_of_ble_eq_true rfl) rfl (g_iret rfl dX7_unclip_66 (Nat.le_of_ble_eq_true rfl) (Nat.le_of_ble_eq_true rfl) ?q66_2))) (fun h55 => g_iload2 dX7_unclip_58 (g_goto (tgt := 66) dX7_unclip_59 (by decide) (g_iret rfl dX7_unclip_66 (Nat.le_of_ble_eq_true rfl) (Nat.le_of_ble_eq_true rfl) ?q66_2'))))) (fun h24 => ?s27_2)
      case s27_2 => omega
      case q66_2 =>
        rw [if_neg (by omega), if_pos (by omega)] at hQ
        exact hQ _ _ ⟨bc_ok _ hlt, hw'⟩
      case q66_2' =>
        rw [if_pos (by omega)] at hQ
        exact hQ _ _ ⟨rfl, hw'⟩
    | succ t ih =>
      intro i w hi hv01 hw
      have hw' := hw
      obtain ⟨kd, pc, nb, hs, od, pl, ov, on, ot, be, pl2, ov2, on2, ot2, be2, n2, rfl⟩ := hw.lit
      have ei := t_nI (n := i) (by omega)
      generalize hf : (List.range i).foldl (unF L) all = f
      have hlt : f < 64 := by rw [← hf]; exact unF_lt L (List.range i) all 64 (by omega) (fun s hs => by have := List.mem_range.mp hs; omega)
      have hstep : (List.range (i + 1)).foldl (unF L) all = unF L f i := by rw [List.range_succ, List.foldl_append, hf]; rfl
      have b1 := bc_ok i (by omega)
      have b2 := bc_ok f hlt
      have c1 := bitN_le i
      have c2 := bitN_le f
      have d1 := t_nI (n := bitN i) (by omega)
      have d2 := t_nI (n := bitN f) (by omega)
      refine g_iload3 dX7_unclip_19 (g_aload0 dX7_unclip_20 (?c21_3))
      refine g_V0i dX7_unclip_21 mv_X7_189 0 rfl rfl rfl (Nat.le_of_ble_eq_true rfl) (Nat.le_of_ble_eq_true rfl) (ha _ hw') (fun r1 w1 hq => ?_)
      obtain ⟨rfl, rfl⟩ := hq
      refine g_icmp_ge (tgt := 54) dX7_unclip_24 (by decide) (fun h24 => ?s54_4) (fun h24 => g_iload3 dX7_unclip_27 (r_J6_bitCount_0f7a4 hN mv_X7_195 dX7_unclip_28 (Nat.le_of_ble_eq_true rfl) (Nat.le_of_ble_eq_true rfl) rfl (g_iload2 dX7_unclip_31 (r_J6_bitCount_0f7a4 hN mv_X7_195 dX7_unclip_32 (Nat.le_of_ble_eq_true rfl) (Nat.le_of_ble_eq_true rfl) rfl (g_icmp_ge (tgt := 48) dX7_unclip_35 (by decide) (fun h35 => ?s48_4) (fun h35 => g_aload0 dX7_unclip_38 (g_iload3 dX7_unclip_39 (?c40_4))))))))
      case s54_4 => omega
      all_goals rw [b1, b2, d1, d2] at h35
      case s48_4 =>
        refine g_iinc3 ki_1 dX7_unclip_48 rfl rfl (g_goto (tgt := 19) dX7_unclip_51 (by decide) (?s19_5))
        rw [nI_1]
        have := ih (i + 1) _ (by omega) hv01 hw'
        rw [hstep] at this
        unfold unF at this
        rw [if_neg (by omega)] at this
        exact this
      case c40_4 =>
        refine g_V1i dX7_unclip_40 mv_X7_192 0 rfl rfl rfl (Nat.le_of_ble_eq_true rfl) (Nat.le_of_ble_eq_true rfl) (c_leftWithout hN hw' hv hD6 (by omega)) (fun r1 w1 hq => ?_)
        obtain ⟨rfl, hw3⟩ := hq
        have hwl : (woL i L).length ≤ 40 := by
          have h40 : L.length ≤ 40 := by obtain ⟨_, _, _, ⟨_, _, _, hr9, _⟩, _⟩ := hw'; exact hr9.1
          have h41 := woF_len i L []
          have h42 : ([] : List Cr).length = 0 := rfl
          show (L.foldl (woF i) []).length ≤ 40
          omega
        have ew := t_nI (n := (woL i L).length) (by omega)
        have hn := ih (i + 1) _ (by omega) hv01 hw3
        rw [hstep] at hn
        unfold unF at hn
        refine g_if_ne (tgt := 48) dX7_unclip_43 (by decide) (fun h43 => g_iinc3 ki_1 dX7_unclip_48 rfl rfl (g_goto (tgt := 19) dX7_unclip_51 (by decide) (?s19_6))) (fun h43 => g_iload3 dX7_unclip_46 (g_istore2 dX7_unclip_47 rfl rfl (g_iinc3 ki_1 dX7_unclip_48 rfl rfl (g_goto (tgt := 19) dX7_unclip_51 (by decide) (?s19_6')))))
        case s19_6 =>
          rw [nI_1]
          rw [if_neg (by omega)] at hn
          exact hn
        case s19_6' =>
          rw [nI_1]
          rw [if_pos (by omega)] at hn
          exact hn
  refine g_iload1 dX7_unclip_0 (g_iconst ki_0 dX7_unclip_1 (g_iconst ki_1 dX7_unclip_2 (r_X7_isWithin hN mv_X7_100 dX7_unclip_3 (Nat.le_of_ble_eq_true rfl) (Nat.le_of_ble_eq_true rfl) rfl (g_if_ne (tgt := 12) dX7_unclip_6 (by decide) (fun h6 => g_aload0 dX7_unclip_12 (?c13_7)) (fun h6 => g_bipush kb_m2 dX7_unclip_9 (g_iret rfl dX7_unclip_11 (Nat.le_of_ble_eq_true rfl) (Nat.le_of_ble_eq_true rfl) ?q11_7))))))
  case q11_7 => rw [if_neg (by omega), if_neg (by omega)] at hQ; exact hQ _ _ ⟨rfl, hw'⟩
  case c13_7 =>
    refine g_V0i dX7_unclip_13 mv_X7_189 0 rfl rfl rfl (Nat.le_of_ble_eq_true rfl) (Nat.le_of_ble_eq_true rfl) (ha _ hw') (fun r1 w1 hq => ?_)
    obtain ⟨rfl, rfl⟩ := hq
    refine g_istore2 dX7_unclip_16 rfl rfl (g_iconst ki_0 dX7_unclip_17 (g_istore3 dX7_unclip_18 rfl rfl (?s19_8)))
    exact loop all 0 _ (by omega) (by omega) hw'
set_option maxRecDepth 20000 in
set_option maxHeartbeats 1000000 in
theorem c_leftOfDrawn (hN : g_N E) (hw : Ath E a D r L im tc w) (z : Int32) {m : Nat} (hm : m ≤ 40) : g_Ci E mX7_leftOfDrawn (d + 4) [.ref (a 0), .int z, .int (nI m)] w (fun y w' => y = nI (sDr D z m) ∧ Ath E a D r L im tc w') := by
  have hw' := hw
  obtain ⟨w1, wt, Lt, hA, ht, rfl⟩ := hw
  have hA' := hA
  obtain ⟨wp, wr, hp, hr, rfl⟩ := hA
  obtain ⟨hD, kd, pc, nb, hs, od, rfl, -⟩ := hp
  obtain ⟨hL, pl, ov, on, ot, be, rfl, hrl⟩ := hr
  obtain ⟨-, pl2, ov2, on2, ot2, be2, rfl, -⟩ := ht
  have hn6 := hD.1
  have em := t_nI (n := m) (by omega)
  have e1 := t_nI (n := D.1.length) (by omega)
  refine g_enterI hN.1 (by decide) [some (.ref (a 0)), some (.int z), some (.int (nI m)), none, none, none] rfl (Nat.le_of_ble_eq_true rfl) (fun A Q hQ => ?_)
  have tc0 := tc_0; have tc1 := tc_1; have tc2 := tc_2; have tc8 := tc_8; have tc16 := tc_16; have tc12345 := tc_12345; have tc1103515245 := tc_1103515245
  have e2 : (nI D.1.length - 1).toInt = (D.1.length : Int) - 1 := by rw [t_sub (by omega) (by omega)]; omega
  unfold sDr at hQ
  by_cases h2 : D.1.length < 2
  · rw [if_pos h2] at hQ
    refine g_aload0 dX7_leftOfDrawn_0 (g_get fl_X7_10 0 rfl rfl dX7_leftOfDrawn_1 (g_get fl_X7_110 1 rfl rfl dX7_leftOfDrawn_4 (g_iconst ki_1 dX7_leftOfDrawn_7 (g_isub dX7_leftOfDrawn_8 (g_istore3 dX7_leftOfDrawn_9 rfl rfl (g_iload3 dX7_leftOfDrawn_10 (g_iconst ki_1 dX7_leftOfDrawn_11 (g_icmp_ge (tgt := 17) dX7_leftOfDrawn_12 (by decide) (fun h12 => ?s17) (fun h12 => g_iconst ki_0 dX7_leftOfDrawn_15 (g_iret rfl dX7_leftOfDrawn_16 (Nat.le_of_ble_eq_true rfl) (Nat.le_of_ble_eq_true rfl) ?q16))))))))))
    case s17 => omega
    case q16 => exact hQ _ _ ⟨rfl, hw'⟩
  · rw [if_neg h2] at hQ
    generalize hF : drF (D.1.length - 1) m z [] = F at hQ
    have eP : nI D.1.length - 1 = nI (D.1.length - 1) := by rw [show (1 : Int32) = nI 1 from rfl]; exact pk_sub (by omega)
    have loop : ∀ t i z1 l wt, i + t = m → F = drF (D.1.length - 1) t z1 l → l.length ≤ i → Row E a 31 l wt → G E mX7_leftOfDrawn (d + 4) 0 0 A Q 0 0 31 [some (.ref (a 0)), some (.int z), some (.int (nI m)), some (.int (nI (D.1.length - 1))), some (.int z1), some (.int (nI i))] [] (((a 0, dolO a im tc) :: (packW E a 1 kd pc nb hs od (nI D.1.length) (nI r) ++ rowW E a 7 pl ov on ot be (nI L.length))) ++ wt) := by
      intro t
      induction t with
      | zero =>
        intro i z1 l wt hi hf hl hwt
        have ei := t_nI (n := i) (by omega)
        have hwt' := hwt
        obtain ⟨-, pl3, ov3, on3, ot3, be3, rfl, -⟩ := hwt
        rw [drF] at hf
        subst hf
        refine g_iload5 dX7_leftOfDrawn_31 (g_iload2 dX7_leftOfDrawn_33 (g_icmp_ge (tgt := 79) dX7_leftOfDrawn_34 (by decide) (fun h34 => g_aload0 dX7_leftOfDrawn_79 (g_get fl_X7_30 0 rfl rfl dX7_leftOfDrawn_80 (g_get fl_X7_107 13 rfl rfl dX7_leftOfDrawn_83 (g_iret rfl dX7_leftOfDrawn_86 (Nat.le_of_ble_eq_true rfl) (Nat.le_of_ble_eq_true rfl) ?q86_2)))) (fun h34 => ?s37_2)))
        case s37_2 => omega
        case q86_2 => exact hQ _ _ ⟨rfl, _, _, _, hA', hwt', rfl⟩
      | succ t ih =>
        intro i z1 l wt hi hf hl hwt
        have ei := t_nI (n := i) (by omega)
        have hwt' := hwt
        obtain ⟨-, pl3, ov3, on3, ot3, be3, rfl, -⟩ := hwt
        rw [drF] at hf
        have hz : z1 * 1103515245 + 12345 = dzF z1 := rfl
        have hu8 : ((dzF z1).toUInt32 >>> ((8 : Int32).toUInt32 &&& Int32.toUInt32 31)).toInt32 = nI ((dzF z1).toBitVec.toNat / 256) := usr_nI (dzF z1) 8 8 (by omega) (by decide)
        have hu16 : ((dzF z1).toUInt32 >>> ((16 : Int32).toUInt32 &&& Int32.toUInt32 31)).toInt32 = nI ((dzF z1).toBitVec.toNat / 65536) := usr_nI (dzF z1) 16 16 (by omega) (by decide)
        have hb := (dzF z1).toBitVec.isLt
        have hr1 := pk_rem (a := (dzF z1).toBitVec.toNat / 256) (d := D.1.length - 1) (by omega) (by omega) (by omega)
        have hr2 := pk_rem (a := (dzF z1).toBitVec.toNat / 65536) (d := 2) (by omega) (by omega) (by omega)
        have hm1 := Nat.mod_lt ((dzF z1).toBitVec.toNat / 256) (show D.1.length - 1 > 0 by omega)
        have hm2 := Nat.mod_lt ((dzF z1).toBitVec.toNat / 65536) (show 2 > 0 by omega)
        have eP2 := t_nI (n := D.1.length - 1) (by omega)
        refine g_iload5 dX7_leftOfDrawn_31 (g_iload2 dX7_leftOfDrawn_33 (g_icmp_ge (tgt := 79) dX7_leftOfDrawn_34 (by decide) (fun h34 => ?s79_3) (fun h34 => g_iload4 dX7_leftOfDrawn_37 (g_ldc_w kc_X7_325 dX7_leftOfDrawn_39 (g_imul dX7_leftOfDrawn_42 (g_sipush ks_12345 dX7_leftOfDrawn_43 (g_iadd dX7_leftOfDrawn_46 (g_istore4 dX7_leftOfDrawn_47 rfl rfl (g_aload0 dX7_leftOfDrawn_49 (g_get fl_X7_30 0 rfl rfl dX7_leftOfDrawn_50 (g_iload4 dX7_leftOfDrawn_53 (g_bipush kb_8 dX7_leftOfDrawn_55 (g_iushr dX7_leftOfDrawn_57 (g_iload3 dX7_leftOfDrawn_58 (g_irem dX7_leftOfDrawn_59 ?z59_3 (g_iload4 dX7_leftOfDrawn_60 (g_bipush kb_16 dX7_leftOfDrawn_62 (g_iushr dX7_leftOfDrawn_64 (g_iconst ki_2 dX7_leftOfDrawn_65 (g_irem dX7_leftOfDrawn_66 ?z66_3 (g_iconst ki_0 dX7_leftOfDrawn_67 (g_iconst ki_0 dX7_leftOfDrawn_68 (g_iconst ki_0 dX7_leftOfDrawn_69 (?c70_3))))))))))))))))))))))))
        case s79_3 => omega
        case z59_3 => intro q; rw [q] at eP2; have : (0 : Int32).toInt = 0 := by decide
                      omega
        case z66_3 => decide
        case c70_3 =>
          rw [hz, hu8, hu16, hr1, show (2 : Int32) = nI 2 from rfl, hr2]
          have hly := c_lay (d := d) hN hwt' (by omega) (c := dzC (D.1.length - 1) (dzF z1)) ⟨by show _ % _ < 1000; omega, by show _ % 2 < 1000; omega, by show 0 < 1000; omega, by show 0 < 1000; omega, by show 0 < 1000; omega⟩
          refine g_sub (ws' := ((a 0, dolO a im tc) :: (packW E a 1 kd pc nb hs od (nI D.1.length) (nI r) ++ rowW E a 7 pl ov on ot be (nI L.length))) ++ (rowW E a 31 pl3 ov3 on3 ot3 be3 (nI l.length) ++ [])) [0, 1, 2, 3, 4, 5, 6, 7, 8, 9, 10, 11, 12, 13, 14, 15, 16, 17, 18] (by decide) rfl ?_
          refine g_V5v dX7_leftOfDrawn_70 mv_X7_322 13 rfl rfl rfl (Nat.le_of_ble_eq_true rfl) (Nat.le_of_ble_eq_true rfl) (hly.frame) (fun w1 hq => ?_)
          obtain ⟨w3, hw3, rfl⟩ := hq
          refine g_iinc5 ki_1 dX7_leftOfDrawn_73 rfl rfl (g_goto (tgt := 31) dX7_leftOfDrawn_76 (by decide) (?s31_4))
          rw [nI_1, List.append_nil]
          have := layL_len l (dzC (D.1.length - 1) (dzF z1))
          exact ih (i + 1) _ _ _ (by omega) hf (by omega) hw3
    refine g_aload0 dX7_leftOfDrawn_0 (g_get fl_X7_10 0 rfl rfl dX7_leftOfDrawn_1 (g_get fl_X7_110 1 rfl rfl dX7_leftOfDrawn_4 (g_iconst ki_1 dX7_leftOfDrawn_7 (g_isub dX7_leftOfDrawn_8 (g_istore3 dX7_leftOfDrawn_9 rfl rfl (g_iload3 dX7_leftOfDrawn_10 (g_iconst ki_1 dX7_leftOfDrawn_11 (g_icmp_ge (tgt := 17) dX7_leftOfDrawn_12 (by decide) (fun h12 => g_aload0 dX7_leftOfDrawn_17 (g_get fl_X7_30 0 rfl rfl dX7_leftOfDrawn_18 (g_iconst ki_0 dX7_leftOfDrawn_21 (g_put fl_X7_107 fp_3_5 13 rfl rfl rfl (Nat.le_of_ble_eq_true rfl) dX7_leftOfDrawn_22 (g_iload1 dX7_leftOfDrawn_25 (g_istore4 dX7_leftOfDrawn_26 rfl rfl (g_iconst ki_0 dX7_leftOfDrawn_28 (g_istore5 dX7_leftOfDrawn_29 rfl rfl (?s31_5))))))))) (fun h12 => g_iconst ki_0 dX7_leftOfDrawn_15 (g_iret rfl dX7_leftOfDrawn_16 (Nat.le_of_ble_eq_true rfl) (Nat.le_of_ble_eq_true rfl) ?q16_5))))))))))
    case q16_5 => omega
    case s31_5 =>
      rw [eP]
      exact loop m 0 z [] _ (by omega) hF.symm (Nat.le_refl _) (Row.mk (pl := pl2) (ov := ov2) (on := on2) (ot := ot2) (be := be2) rfl rfl (Nat.zero_le _) (fun i c h => by simp at h))
set_option maxRecDepth 20000 in
theorem c_drawn (hN : g_N E) (hw : Ath E a D r L im tc w) (z m : Int32) : g_Ci E mX7_drawn (d + 5) [.ref (a 0), .int z, .int m] w (fun y w' => y = sDrawn D z m ∧ Ath E a D r L im tc w') := by
  have hw' := hw
  obtain ⟨kd, pc, nb, hs, od, pl, ov, on, ot, be, pl2, ov2, on2, ot2, be2, n2, rfl⟩ := hw.lit
  refine g_enterI hN.1 (by decide) [some (.ref (a 0)), some (.int z), some (.int m)] rfl (Nat.le_of_ble_eq_true rfl) (fun A Q hQ => ?_)
  have tcm2 := tc_m2; have tc0 := tc_0; have tc40 := tc_40
  have z0 := g_biz (p := ((0 : Int32).toInt ≤ m.toInt ∧ m.toInt ≤ (40 : Int32).toInt))
  unfold sDrawn at hQ
  refine g_iload2 dX7_drawn_0 (g_iconst ki_0 dX7_drawn_1 (g_bipush kb_40 dX7_drawn_2 (r_X7_isWithin hN mv_X7_100 dX7_drawn_4 (Nat.le_of_ble_eq_true rfl) (Nat.le_of_ble_eq_true rfl) rfl (g_if_eq (tgt := 19) dX7_drawn_7 (by decide) (fun h7 => g_bipush kb_m2 dX7_drawn_19 (g_iret rfl dX7_drawn_21 (Nat.le_of_ble_eq_true rfl) (Nat.le_of_ble_eq_true rfl) ?q21)) (fun h7 => g_aload0 dX7_drawn_10 (g_iload1 dX7_drawn_11 (g_iload2 dX7_drawn_12 (?c13))))))))
  case q21 => rw [if_neg (by omega)] at hQ; exact hQ _ _ ⟨rfl, hw'⟩
  case c13 =>
    rw [if_pos (by omega)] at hQ
    have hl := c_leftOfDrawn (d := d) hN hw' z (m := m.toInt.toNat) (by omega)
    rw [← t_of (a := m) (by omega)] at hl
    refine g_V2i dX7_drawn_13 mv_X7_258 0 rfl rfl rfl (Nat.le_of_ble_eq_true rfl) (Nat.le_of_ble_eq_true rfl) (hl) (fun r1 w1 hq => ?_)
    obtain ⟨rfl, hw3⟩ := hq
    refine g_goto (tgt := 21) dX7_drawn_16 (by decide) (g_iret rfl dX7_drawn_21 (Nat.le_of_ble_eq_true rfl) (Nat.le_of_ble_eq_true rfl) ?q21_2)
    exact hQ _ _ ⟨rfl, hw3⟩
end S46
