/-! who, without, unclip, drawn, chance -/
def usr (x y : Int32) : Int32 := (x.toUInt32 >>> (y.toUInt32 &&& Int32.toUInt32 31)).toInt32
def bc1 (v : Int32) : Int32 := v - (usr v 1 &&& 1431655765)
def bc2 (v : Int32) : Int32 := (v &&& 858993459) + (usr v 2 &&& 858993459)
def bc3 (v : Int32) : Int32 := (v + usr v 4) &&& 252645135
def bc4 (v : Int32) : Int32 := v + usr v 8
def bc5 (v : Int32) : Int32 := v + usr v 16
def bcF (v : Int32) : Int32 := bc5 (bc4 (bc3 (bc2 (bc1 v)))) &&& 63
def bitN (m : Nat) : Nat := ((List.range 6).filter (fun i => m.testBit i)).length
theorem bc_ok : ∀ m, m < 64 → bcF (nI m) = nI (bitN m) := by decide +kernel
theorem bitN_le (m : Nat) : bitN m ≤ 6 := by
  unfold bitN
  have := List.length_filter_le (fun i => m.testBit i) (List.range 6)
  rw [List.length_range] at this
  exact this
def whoP (c : Cr) (x y : Nat) : Bool := (x == c.2.2.1 || x == c.2.2.2.1) && (y == c.2.2.1 || y == c.2.2.2.1)
theorem who_bits : ∀ o1, o1 < 6 → ∀ o2, o2 < 6 → ∀ x, x < 6 → ∀ y, y < 6 → ((((1 <<< (nI o1 &&& 31)) ||| (1 <<< (nI o2 &&& 31)) : Int32) &&& ((1 <<< (nI x &&& 31)) ||| (1 <<< (nI y &&& 31)))).toInt = ((1 <<< (nI x &&& 31)) ||| (1 <<< (nI y &&& 31)) : Int32).toInt ↔ whoP (0, 0, o1, o2, 0) x y = true) := by decide +kernel
def cntW (l : List Cr) (x y : Nat) : Nat := (l.filter (fun c => whoP c x y)).length
theorem cntW_snoc (l : List Cr) (c : Cr) (x y : Nat) : cntW (l ++ [c]) x y = cntW l x y + (if whoP c x y then 1 else 0) := by
  unfold cntW
  rw [List.filter_append, List.length_append]
  by_cases h : whoP c x y = true
  · simp [h]
  · simp [h]
def sWho (D : Dg) (Lt : List Cr) (x y : Int32) : Int32 :=
  if ¬ ((0 ≤ x.toInt ∧ x.toInt < D.1.length) ∧ (0 ≤ y.toInt ∧ y.toInt < D.1.length)) then -2
  else if x.toInt = y.toInt then nI (min (cntW Lt x.toInt.toNat y.toInt.toNat) 1) else nI (cntW Lt x.toInt.toNat y.toInt.toNat)
section S44a
variable {E : GE} {M : GM} {d mc ms : Nat} {A : Nat → Prop} {Q : Option Value → va_W → Prop} {k n pc : Nat} {ls : List (Option Value)} {st : List Value} {ws : va_W}
set_option maxRecDepth 20000 in
theorem c_J6_bitCount_0f7a4 (hN : g_N E) (v : Int32) : g_Ci E mJ6_bitCount_0f7a4 (d + 1) [.int v] [] (fun r w => r = (bcF v) ∧ w = []) := by
  refine g_enter hN.1 (by decide) [some (.int v)] rfl (Nat.le_of_ble_eq_true rfl) (fun A => ?_)
  have tc1 := tc_1; have tc2 := tc_2; have tc4 := tc_4; have tc8 := tc_8; have tc16 := tc_16; have tc63 := tc_63; have tc252645135 := tc_252645135; have tc858993459 := tc_858993459; have tc1431655765 := tc_1431655765
  refine g_iload0 dJ6_bitCount_0f7a4_0 (g_iload0 dJ6_bitCount_0f7a4_1 (g_iconst ki_1 dJ6_bitCount_0f7a4_2 (g_iushr dJ6_bitCount_0f7a4_3 (g_ldc_w kc_J6_265 dJ6_bitCount_0f7a4_4 (g_iand dJ6_bitCount_0f7a4_7 (g_isub dJ6_bitCount_0f7a4_8 (g_istore0 dJ6_bitCount_0f7a4_9 rfl (g_iload0 dJ6_bitCount_0f7a4_10 (g_ldc_w kc_J6_266 dJ6_bitCount_0f7a4_11 (g_iand dJ6_bitCount_0f7a4_14 (g_iload0 dJ6_bitCount_0f7a4_15 (g_iconst ki_2 dJ6_bitCount_0f7a4_16 (g_iushr dJ6_bitCount_0f7a4_17 (g_ldc_w kc_J6_266 dJ6_bitCount_0f7a4_18 (g_iand dJ6_bitCount_0f7a4_21 (g_iadd dJ6_bitCount_0f7a4_22 (g_istore0 dJ6_bitCount_0f7a4_23 rfl (g_iload0 dJ6_bitCount_0f7a4_24 (g_iload0 dJ6_bitCount_0f7a4_25 (g_iconst ki_4 dJ6_bitCount_0f7a4_26 (g_iushr dJ6_bitCount_0f7a4_27 (g_iadd dJ6_bitCount_0f7a4_28 (g_ldc_w kc_J6_267 dJ6_bitCount_0f7a4_29 (g_iand dJ6_bitCount_0f7a4_32 (g_istore0 dJ6_bitCount_0f7a4_33 rfl (g_iload0 dJ6_bitCount_0f7a4_34 (g_iload0 dJ6_bitCount_0f7a4_35 (g_bipush kb_8 dJ6_bitCount_0f7a4_36 (g_iushr dJ6_bitCount_0f7a4_38 (g_iadd dJ6_bitCount_0f7a4_39 (g_istore0 dJ6_bitCount_0f7a4_40 rfl (g_iload0 dJ6_bitCount_0f7a4_41 (g_iload0 dJ6_bitCount_0f7a4_42 (g_bipush kb_16 dJ6_bitCount_0f7a4_43 (g_iushr dJ6_bitCount_0f7a4_45 (g_iadd dJ6_bitCount_0f7a4_46 (g_istore0 dJ6_bitCount_0f7a4_47 rfl (g_iload0 dJ6_bitCount_0f7a4_48 (g_bipush kb_63 dJ6_bitCount_0f7a4_49 (g_iand dJ6_bitCount_0f7a4_51 (g_iret rfl dJ6_bitCount_0f7a4_52 (Nat.le_of_ble_eq_true rfl) (Nat.le_of_ble_eq_true rfl) ?q52)))))))))))))))))))))))))))))))))))))))))
  exact ⟨_, rfl, rfl, rfl⟩
theorem r_J6_bitCount_0f7a4 (hN : g_N E) {idx : Nat} {v : Int32} (hm : MS M.1.cls idx mJ6_bitCount_0f7a4 1) (hd : decode M.2.1 pc = .ok (.invokestatic idx, 3)) (hk : k ≤ mc) (hn : n ≤ ms) (hr : Nat.ble (st.map fun v => v.category).sum 8 = true) (kk : G E M (d + 2) mc ms A Q k n (pc + 3) ls (.int (bcF v) :: st) ws) : G E M (d + 2) mc ms A Q k n pc ls (.int v :: st) ws :=
  g_S1i hd hm hr hk hn ((c_J6_bitCount_0f7a4 hN v).none) (fun r_ w_ hq => by obtain ⟨w1_, ⟨h1_, h2_⟩, rfl⟩ := hq; rw [List.append_nil] at h2_; rw [h1_, h2_]; exact kk)
end S44a
section S44
variable {E : GE} {d : Nat} {a : Nat → Nat} {D : Dg} {r : Nat} {L Lt : List Cr} {im tc : Int32} {w : va_W}
set_option maxRecDepth 20000 in
set_option maxHeartbeats 1000000 in
theorem c_who (hN : g_N E) (hw : Atg E a D r L Lt im tc w) (hv : plOK D.1.length L) (hD6 : D.1.length ≤ 6) (x y : Int32) : g_Ci E mX7_who (d + 5) [.ref (a 0), .int x, .int y] w (fun z w' => z = sWho D (tanL L) x y ∧ (w' = w ∨ Atg E a D r L (tanL L) im tc w')) := by
  have hw' := hw
  obtain ⟨w1, w2, hA, hR, hww⟩ := hw.apk
  obtain ⟨kd, pc, nb, hs, od, pl, ov, on, ot, be, pl2, ov2, on2, ot2, be2, rfl, hL, hLt, h2, hp, hr, ht⟩ := hw.lit
  have htl := tanL_len L
  refine g_enterI hN.1 (by decide) [some (.ref (a 0)), some (.int x), some (.int y), none, none, none] rfl (Nat.le_of_ble_eq_true rfl) (fun A Q hQ => ?_)
  have tcm2 := tc_m2; have tc0 := tc_0; have tc1 := tc_1
  unfold sWho at hQ
  have z0 := g_biz (p := (0 ≤ x.toInt ∧ x.toInt < D.1.length))
  have z1 := g_biz (p := (0 ≤ y.toInt ∧ y.toInt < D.1.length))
  have isd : ∀ v, g_Ci E mX7_isDog (d + 4) [.ref (a 0), .int v] ((a 0, dolO a im tc) :: (packW E a 1 kd pc nb hs od (nI D.1.length) (nI r) ++ (rowW E a 7 pl ov on ot be (nI L.length) ++ rowW E a 25 pl2 ov2 on2 ot2 be2 (nI Lt.length)))) (fun z w' => z = g_bi (0 ≤ v.toInt ∧ v.toInt < D.1.length) ∧ w' = (a 0, dolO a im tc) :: (packW E a 1 kd pc nb hs od (nI D.1.length) (nI r) ++ (rowW E a 7 pl ov on ot be (nI L.length) ++ rowW E a 25 pl2 ov2 on2 ot2 be2 (nI Lt.length)))) := by
    intro v
    have := (c_isDog (d := d + 2) hN hA v).frame (X := []) (Y := w2)
    rw [List.nil_append, ← hww] at this
    exact this.post (fun z w' hz => by obtain ⟨w3, ⟨h1, rfl⟩, h4⟩ := hz; exact ⟨h1, by rw [h4, List.nil_append, ← hww]⟩)
  refine g_aload0 dX7_who_0 (g_iload1 dX7_who_1 (?c2))
  refine g_V1i dX7_who_2 mv_X7_115 0 rfl rfl rfl (Nat.le_of_ble_eq_true rfl) (Nat.le_of_ble_eq_true rfl) (isd x) (fun r1 w1 hq => ?_)
  obtain ⟨rfl, rfl⟩ := hq
  refine g_if_eq (tgt := 16) dX7_who_5 (by decide) (fun h5 => g_bipush kb_m2 dX7_who_16 (g_iret rfl dX7_who_18 (Nat.le_of_ble_eq_true rfl) (Nat.le_of_ble_eq_true rfl) ?q18_2)) (fun h5 => g_aload0 dX7_who_8 (g_iload2 dX7_who_9 (?c10_2)))
  case q18_2 => rw [if_pos (by omega)] at hQ; exact hQ _ _ ⟨rfl, Or.inl rfl⟩
  case c10_2 =>
    refine g_V1i dX7_who_10 mv_X7_115 0 rfl rfl rfl (Nat.le_of_ble_eq_true rfl) (Nat.le_of_ble_eq_true rfl) (isd y) (fun r1 w1 hq => ?_)
    obtain ⟨rfl, rfl⟩ := hq
    refine g_if_ne (tgt := 19) dX7_who_13 (by decide) (fun h13 => g_aload0 dX7_who_19 (?c20_3)) (fun h13 => g_bipush kb_m2 dX7_who_16 (g_iret rfl dX7_who_18 (Nat.le_of_ble_eq_true rfl) (Nat.le_of_ble_eq_true rfl) ?q18_3))
    case q18_3 => rw [if_pos (by omega)] at hQ; exact hQ _ _ ⟨rfl, Or.inl rfl⟩
    case c20_3 =>
      rw [if_neg (by omega)] at hQ
      refine g_V0v dX7_who_20 mv_X7_168 0 rfl rfl rfl (Nat.le_of_ble_eq_true rfl) (Nat.le_of_ble_eq_true rfl) (c_makeTangle hN hw') (fun w1 hq => ?_)
      have hw1 := hq
      obtain ⟨kd, pc, nb, hs, od, pl, ov, on, ot, be, pl2, ov2, on2, ot2, be2, rfl, hL, hLt, h2, hp, hr, ht⟩ := hw1.lit
      have eT := t_nI (n := (tanL L).length) (by omega)
      have ex : x = nI x.toInt.toNat := t_of (by omega)
      have ey : y = nI y.toInt.toNat := t_of (by omega)
      generalize hbo : ((1 <<< (x &&& 31)) ||| (1 <<< (y &&& 31)) : Int32) = bo
      have loop : ∀ t i, i + t = (tanL L).length → G E mX7_who (d + 5) 0 0 A Q 0 0 39 [some (.ref (a 0)), some (.int x), some (.int y), some (.int bo), some (.int (nI (cntW ((tanL L).take i) x.toInt.toNat y.toInt.toNat))), some (.int (nI i))] [] ((a 0, dolO a im tc) :: (packW E a 1 kd pc nb hs od (nI D.1.length) (nI r) ++ (rowW E a 7 pl ov on ot be (nI L.length) ++ rowW E a 25 pl2 ov2 on2 ot2 be2 (nI (tanL L).length)))) := by
        intro t
        induction t with
        | zero =>
          intro i hi
          have ei := t_nI (n := i) (by omega)
          have hcl : cntW (tanL L) x.toInt.toNat y.toInt.toNat ≤ (tanL L).length := List.length_filter_le _ _
          have ec := t_nI (n := cntW (tanL L) x.toInt.toNat y.toInt.toNat) (by omega)
          rw [List.take_of_length_le (by omega)]
          refine g_iload5 dX7_who_39 (g_aload0 dX7_who_41 (g_get fl_X7_26 0 rfl rfl dX7_who_42 (g_get fl_X7_107 13 rfl rfl dX7_who_45 (g_icmp_ge (tgt := 75) dX7_who_48 (by decide) (fun h48 => g_iload1 dX7_who_75 (g_iload2 dX7_who_76 (g_icmp_ne (tgt := 89) dX7_who_77 (by decide) (fun h77 => g_iload4 dX7_who_89 (g_iret rfl dX7_who_91 (Nat.le_of_ble_eq_true rfl) (Nat.le_of_ble_eq_true rfl) ?q91_4)) (fun h77 => g_iload4 dX7_who_80 (g_iconst ki_1 dX7_who_82 (g_mmin wm_X7_184 dX7_who_83 (Nat.le_of_ble_eq_true rfl) (Nat.le_of_ble_eq_true rfl) rfl (g_goto (tgt := 91) dX7_who_86 (by decide) (g_iret rfl dX7_who_91 (Nat.le_of_ble_eq_true rfl) (Nat.le_of_ble_eq_true rfl) ?q91_4')))))))) (fun h48 => ?s51_4)))))
          case s51_4 => omega
          case q91_4 =>
            rw [if_neg (by omega)] at hQ
            exact hQ _ _ ⟨rfl, Or.inr hw1⟩
          case q91_4' =>
            rw [if_pos (by omega)] at hQ
            refine hQ _ _ ⟨?_, Or.inr hw1⟩
            have e1 := t_min (nI (cntW (tanL L) x.toInt.toNat y.toInt.toNat)) 1
            refine t_ext ?_
            rw [e1, ec, t_nI (n := min (cntW (tanL L) x.toInt.toNat y.toInt.toNat) 1) (by omega), tc1]
            omega
        | succ t ih =>
          intro i hi
          have ei := t_nI (n := i) (by omega)
          obtain ⟨c, hc⟩ : ∃ c, (tanL L)[i]? = some c := ⟨(tanL L)[i], List.getElem?_eq_getElem (by omega)⟩
          have hrc := h2 i c hc
          have hcv := hv c (tanL_sub (List.mem_of_getElem? hc))
          have hT : (tanL L).take (i + 1) = (tanL L).take i ++ [c] := by rw [List.take_succ, hc]; rfl
          have hwb := who_bits c.2.2.1 (by omega) c.2.2.2.1 (by omega) x.toInt.toNat (by omega) y.toInt.toNat (by omega)
          rw [← ex, ← ey, hbo] at hwb
          have hnext := ih (i + 1) (by omega)
          refine g_iload5 dX7_who_39 (g_aload0 dX7_who_41 (g_get fl_X7_26 0 rfl rfl dX7_who_42 (g_get fl_X7_107 13 rfl rfl dX7_who_45 (g_icmp_ge (tgt := 75) dX7_who_48 (by decide) (fun h48 => ?s75_5) (fun h48 => g_aload0 dX7_who_51 (g_get fl_X7_26 0 rfl rfl dX7_who_52 (g_iload5 dX7_who_55 (?c57_5))))))))
          case s75_5 => omega
          case c57_5 =>
            refine g_sub (ws' := ((a 0, dolO a im tc) :: (packW E a 1 kd pc nb hs od (nI D.1.length) (nI r) ++ rowW E a 7 pl ov on ot be (nI L.length))) ++ (rowW E a 25 pl2 ov2 on2 ot2 be2 (nI (tanL L).length) ++ [])) [0, 1, 2, 3, 4, 5, 6, 7, 8, 9, 10, 11, 12, 13, 14, 15, 16, 17, 18] (by decide) rfl ?_
            refine g_V1i dX7_who_57 mv_X7_181 13 rfl rfl rfl (Nat.le_of_ble_eq_true rfl) (Nat.le_of_ble_eq_true rfl) ((c_dogsOf hN (by omega)).frame) (fun r1 w1 hq => ?_)
            obtain ⟨w3, ⟨rfl, rfl⟩, rfl⟩ := hq
            rw [ei, Int.toNat_natCast, hrc.2.2.2.1, hrc.2.2.2.2.1]
            refine g_iload3 dX7_who_60 (g_iand dX7_who_61 (g_iload3 dX7_who_62 (g_icmp_ne (tgt := 69) dX7_who_63 (by decide) (fun h63 => g_iinc5 ki_1 dX7_who_69 rfl rfl (g_goto (tgt := 39) dX7_who_72 (by decide) (?s39_6))) (fun h63 => g_iinc4 ki_1 dX7_who_66 rfl rfl (g_iinc5 ki_1 dX7_who_69 rfl rfl (g_goto (tgt := 39) dX7_who_72 (by decide) (?s39_6')))))))
            case s39_6 =>
              rw [nI_1]
              have hno : whoP c x.toInt.toNat y.toInt.toNat = false := by
                by_cases q : whoP c x.toInt.toNat y.toInt.toNat = true
                · exact absurd (hwb.mpr q) h63
                · simpa using q
              rw [hT, cntW_snoc, hno] at hnext
              exact hnext
            case s39_6' =>
              rw [nI_1, nI_1]
              have hyes : whoP c x.toInt.toNat y.toInt.toNat = true := hwb.mp h63
              rw [hT, cntW_snoc, hyes] at hnext
              exact hnext
      refine g_iload1 dX7_who_23 (r_X7_bit hN mv_X7_178 dX7_who_24 (Nat.le_of_ble_eq_true rfl) (Nat.le_of_ble_eq_true rfl) rfl (g_iload2 dX7_who_27 (r_X7_bit hN mv_X7_178 dX7_who_28 (Nat.le_of_ble_eq_true rfl) (Nat.le_of_ble_eq_true rfl) rfl (g_ior dX7_who_31 (g_istore3 dX7_who_32 rfl rfl (g_iconst ki_0 dX7_who_33 (g_istore4 dX7_who_34 rfl rfl (g_iconst ki_0 dX7_who_36 (g_istore5 dX7_who_37 rfl rfl (?s39_7))))))))))
      rw [hbo]
      exact loop (tanL L).length 0 (by omega)
end S44
