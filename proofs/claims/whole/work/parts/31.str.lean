section S31
variable {E : GE} {d : Nat} {adK adV ta : Nat → Nat} {i : Nat}
set_option maxRecDepth 20000 in
theorem c_coder (hE : g_E E adK adV ta) (hi : i < 15) : g_Ci E mJ0_coder_7d493 (d + 1) [.ref (adK i)] [] (fun r w => r = 0 ∧ w = []) := by
  have hN := g_E_N hE
  refine g_enterI hN.1 (by decide) [some (.ref (adK i))] rfl (Nat.le_of_ble_eq_true rfl) (fun A Q hQ => ?_)
  have tc1 := tc_1
  refine g_getsC hE fs_J0_38 dJ0_coder_7d493_0 ?_
  refine g_if_eq (tgt := 13) dJ0_coder_7d493_3 (by decide) (fun h3 => g_iconst ki_1 dJ0_coder_7d493_13 (g_bret rfl ?v14 dJ0_coder_7d493_14 (Nat.le_of_ble_eq_true rfl) (Nat.le_of_ble_eq_true rfl) ?q14)) (fun h3 => g_aload0 dJ0_coder_7d493_6 (?c7))
  case c7 =>
    refine g_getC hE hi fs_J0_15 dJ0_coder_7d493_7 ?_
    refine g_goto (tgt := 14) dJ0_coder_7d493_10 (by decide) (g_bret rfl ?v14_2 dJ0_coder_7d493_14 (Nat.le_of_ble_eq_true rfl) (Nat.le_of_ble_eq_true rfl) ?q14_2)
    case v14_2 => rfl
    exact hQ _ _ ⟨rfl, rfl⟩
  case v14 => rfl
  case q14 => exact absurd h3 (by decide)
set_option maxRecDepth 20000 in
theorem c_isLatin1 (hE : g_E E adK adV ta) (hi : i < 15) : g_Ci E mJ0_isLatin1_aae02 (d + 1) [.ref (adK i)] [] (fun r w => r = 1 ∧ w = []) := by
  have hN := g_E_N hE
  refine g_enterI hN.1 (by decide) [some (.ref (adK i))] rfl (Nat.le_of_ble_eq_true rfl) (fun A Q hQ => ?_)
  have tc0 := tc_0; have tc1 := tc_1
  refine g_getsC hE fs_J0_38 dJ0_isLatin1_aae02_0 ?_
  refine g_if_eq (tgt := 17) dJ0_isLatin1_aae02_3 (by decide) (fun h3 => g_iconst ki_0 dJ0_isLatin1_aae02_17 (g_zret rfl (by first | exact g_bi01 _ | exact Or.inl rfl | exact Or.inr rfl) dJ0_isLatin1_aae02_18 (Nat.le_of_ble_eq_true rfl) (Nat.le_of_ble_eq_true rfl) ?q18)) (fun h3 => g_aload0 dJ0_isLatin1_aae02_6 (?c7))
  case c7 =>
    refine g_getC hE hi fs_J0_15 dJ0_isLatin1_aae02_7 ?_
    refine g_if_ne (tgt := 17) dJ0_isLatin1_aae02_10 (by decide) (fun h10 => g_iconst ki_0 dJ0_isLatin1_aae02_17 (g_zret rfl (by first | exact g_bi01 _ | exact Or.inl rfl | exact Or.inr rfl) dJ0_isLatin1_aae02_18 (Nat.le_of_ble_eq_true rfl) (Nat.le_of_ble_eq_true rfl) ?q18_2)) (fun h10 => g_iconst ki_1 dJ0_isLatin1_aae02_13 (g_goto (tgt := 18) dJ0_isLatin1_aae02_14 (by decide) (g_zret rfl (by first | exact g_bi01 _ | exact Or.inl rfl | exact Or.inr rfl) dJ0_isLatin1_aae02_18 (Nat.le_of_ble_eq_true rfl) (Nat.le_of_ble_eq_true rfl) ?q18_2')))
    case q18_2 => exact absurd tc0 h10
    exact hQ _ _ ⟨rfl, rfl⟩
  case q18 => exact absurd h3 (by decide)
set_option maxRecDepth 20000 in
theorem c_strLen (hE : g_E E adK adV ta) (hi : i < 15) : g_Ci E mJ0_length_8abf5 (d + 2) [.ref (adK i)] [] (fun r w => r = nI (lnS i) ∧ w = []) := by
  have hN := g_E_N hE
  refine g_enterI hN.1 (by decide) [some (.ref (adK i))] rfl (Nat.le_of_ble_eq_true rfl) (fun A Q hQ => ?_)
  skip
  refine g_aload0 dJ0_length_8abf5_0 (?c1)
  refine g_getV hE hi fs_J0_9 dJ0_length_8abf5_1 (g_alenV hE hi dJ0_length_8abf5_4 ?_)
  refine g_aload0 dJ0_length_8abf5_5 (?c6_2)
  refine g_VS0i hE hi dJ0_length_8abf5_6 mv_J0_335 rfl rfl (Nat.le_of_ble_eq_true rfl) (Nat.le_of_ble_eq_true rfl) (c_coder hE hi) (fun r w hq => ?_)
  obtain ⟨rfl, rfl⟩ := hq
  refine g_ishr dJ0_length_8abf5_9 (g_iret rfl dJ0_length_8abf5_10 (Nat.le_of_ble_eq_true rfl) (Nat.le_of_ble_eq_true rfl) ?q10_3)
  exact hQ _ _ ⟨sb_shr0 _, rfl⟩
set_option maxRecDepth 20000 in
theorem c_chk3 (hE : g_E E adK adV ta) {j m : Int32} (h : 0 ≤ j.toInt ∧ j.toInt < m.toInt) {v : Value} (hv : v = .null ∨ ∃ t, v = .ref t) : g_Ci E mJ3_checkIndex_8e157 (d + 1) [.int j, .int m, v] [] (fun r w => r = j ∧ w = []) := by
  have hN := g_E_N hE
  rcases hv with rfl | ⟨t, rfl⟩
  ·
    refine g_enterI hN.1 (by decide) [some (.int j), some (.int m), some (.null)] rfl (Nat.le_of_ble_eq_true rfl) (fun A Q hQ => ?_)
    skip
    refine g_iload0 dJ3_checkIndex_8e157_0 (g_if_lt (tgt := 9) dJ3_checkIndex_8e157_1 (by decide) (fun h1 => ?s9) (fun h1 => g_iload0 dJ3_checkIndex_8e157_4 (g_iload1 dJ3_checkIndex_8e157_5 (g_icmp_lt (tgt := 16) dJ3_checkIndex_8e157_6 (by decide) (fun h6 => g_iload0 dJ3_checkIndex_8e157_16 (g_iret rfl dJ3_checkIndex_8e157_17 (Nat.le_of_ble_eq_true rfl) (Nat.le_of_ble_eq_true rfl) ?q17)) (fun h6 => ?s9')))))
    case s9 => omega
    case s9' => omega
    exact hQ _ _ ⟨rfl, rfl⟩
  ·
    refine g_enterI hN.1 (by decide) [some (.int j), some (.int m), some (.ref t)] rfl (Nat.le_of_ble_eq_true rfl) (fun A Q hQ => ?_)
    skip
    refine g_iload0 dJ3_checkIndex_8e157_0 (g_if_lt (tgt := 9) dJ3_checkIndex_8e157_1 (by decide) (fun h1 => ?s9_2) (fun h1 => g_iload0 dJ3_checkIndex_8e157_4 (g_iload1 dJ3_checkIndex_8e157_5 (g_icmp_lt (tgt := 16) dJ3_checkIndex_8e157_6 (by decide) (fun h6 => g_iload0 dJ3_checkIndex_8e157_16 (g_iret rfl dJ3_checkIndex_8e157_17 (Nat.le_of_ble_eq_true rfl) (Nat.le_of_ble_eq_true rfl) ?q17_2)) (fun h6 => ?s9_2')))))
    case s9_2 => omega
    case s9_2' => omega
    exact hQ _ _ ⟨rfl, rfl⟩
set_option maxRecDepth 20000 in
theorem c_chk (hE : g_E E adK adV ta) {j m : Int32} (h : 0 ≤ j.toInt ∧ j.toInt < m.toInt) : g_Cv E mJ0_checkIndex_df160 (d + 2) [.int j, .int m] [] (fun w => w = []) := by
  have hN := g_E_N hE
  refine g_enterV hN.1 (by decide) [some (.int j), some (.int m)] rfl (Nat.le_of_ble_eq_true rfl) (fun A Q hQ => ?_)
  skip
  refine g_iload0 dJ0_checkIndex_df160_0 (g_iload1 dJ0_checkIndex_df160_1 (?c2))
  refine g_getsQ hE fs_J0_1053 dJ0_checkIndex_df160_2 (fun v hv => ?_)
  refine g_S3i dJ0_checkIndex_df160_5 mv_J0_1059 rfl (Nat.le_of_ble_eq_true rfl) (Nat.le_of_ble_eq_true rfl) (c_chk3 hE h hv) (fun r1 w1 hq => ?_)
  obtain ⟨rfl, rfl⟩ := hq
  refine g_pop dJ0_checkIndex_df160_8 rfl (g_vret rfl dJ0_checkIndex_df160_9 (Nat.le_of_ble_eq_true rfl) (Nat.le_of_ble_eq_true rfl) ?q9_2)
  exact hQ _ rfl
theorem byS_ok : ∀ i, i < 15 → ∀ j, j < lnS i → ((byS i j &&& 255).toUInt32 % 65536).toInt32 = byS i j ∧ narrow .char (.int (byS i j)) = .int (byS i j) := by decide +kernel
theorem lnS_le : ∀ i, i < 15 → lnS i ≤ 39 := by decide +kernel
set_option maxRecDepth 20000 in
theorem c_l1charAt (hE : g_E E adK adV ta) (hi : i < 15) {j : Nat} (hj : j < lnS i) : g_Ci E mJ1_charAt_3b067 (d + 3) [.ref (adV i), .int (nI j)] [] (fun r w => r = byS i j ∧ w = []) := by
  have hN := g_E_N hE
  have h39 := lnS_le i hi
  refine g_enterI hN.1 (by decide) [some (.ref (adV i)), some (.int (nI j))] rfl (Nat.le_of_ble_eq_true rfl) (fun A Q hQ => ?_)
  have tc255 := tc_255
  have ej := t_nI (n := j) (by omega)
  have el := t_nI (n := lnS i) (by omega)
  refine g_iload1 dJ1_charAt_3b067_0 (g_aload0 dJ1_charAt_3b067_1 (?c2))
  refine g_alenV hE hi dJ1_charAt_3b067_2 ?_
  refine g_S2v dJ1_charAt_3b067_3 mv_J1_9 rfl (Nat.le_of_ble_eq_true rfl) (Nat.le_of_ble_eq_true rfl) (c_chk hE (by omega)) (fun w hq => ?_)
  subst hq
  refine g_aload0 dJ1_charAt_3b067_6 (g_iload1 dJ1_charAt_3b067_7 (?c8_2))
  refine g_baldV hE hi dJ1_charAt_3b067_8 (by omega) ?_
  rw [ej, Int.toNat_natCast]
  refine g_sipush ks_255 dJ1_charAt_3b067_9 (g_iand dJ1_charAt_3b067_12 (g_i2c dJ1_charAt_3b067_13 (g_cret rfl ?v14_3 dJ1_charAt_3b067_14 (Nat.le_of_ble_eq_true rfl) (Nat.le_of_ble_eq_true rfl) ?q14_3)))
  case v14_3 => rw [(byS_ok i hi j hj).1]; exact (byS_ok i hi j hj).2
  exact hQ _ _ ⟨(byS_ok i hi j hj).1, rfl⟩
set_option maxRecDepth 20000 in
theorem c_charAt (hE : g_E E adK adV ta) (hi : i < 15) {j : Nat} (hj : j < lnS i) : g_Ci E mJ0_charAt_5068e (d + 4) [.ref (adK i), .int (nI j)] [] (fun r w => r = byS i j ∧ w = []) := by
  have hN := g_E_N hE
  refine g_enterI hN.1 (by decide) [some (.ref (adK i)), some (.int (nI j))] rfl (Nat.le_of_ble_eq_true rfl) (fun A Q hQ => ?_)
  skip
  refine g_aload0 dJ0_charAt_5068e_0 (?c1)
  refine g_VS0i hE hi dJ0_charAt_5068e_1 mv_J0_492 rfl rfl (Nat.le_of_ble_eq_true rfl) (Nat.le_of_ble_eq_true rfl) (c_isLatin1 hE hi) (fun r w hq => ?_)
  obtain ⟨rfl, rfl⟩ := hq
  refine g_if_eq (tgt := 16) dJ0_charAt_5068e_4 (by decide) (fun h4 => ?s16_2) (fun h4 => g_aload0 dJ0_charAt_5068e_7 (?c8_2))
  case s16_2 => exact absurd h4 (by decide)
  refine g_getV hE hi fs_J0_9 dJ0_charAt_5068e_8 ?_
  refine g_iload1 dJ0_charAt_5068e_11 (?c12_3)
  refine g_S2i dJ0_charAt_5068e_12 mv_J0_495 rfl (Nat.le_of_ble_eq_true rfl) (Nat.le_of_ble_eq_true rfl) (c_l1charAt hE hi hj) (fun r1 w1 hq => ?_)
  obtain ⟨rfl, rfl⟩ := hq
  refine g_cret rfl ?v15_4 dJ0_charAt_5068e_15 (Nat.le_of_ble_eq_true rfl) (Nat.le_of_ble_eq_true rfl) ?q15_4
  case v15_4 => exact (byS_ok i hi j hj).2
  exact hQ _ _ ⟨rfl, rfl⟩
theorem r_canEnc {v : Int32} (h : 0 ≤ v.toInt ∧ v.toInt ≤ 255) (hN : g_N E) : g_Ci E mJ1_canEncode_9a6ad (d + 1) [.int v] [] (fun r w => r = 1 ∧ w = []) := by
  refine g_enterI hN.1 (by decide) [some (.int v)] rfl (Nat.le_of_ble_eq_true rfl) (fun A Q hQ => ?_)
  have tc0 := tc_0; have tc1 := tc_1; have tc255 := tc_255
  refine g_iload0 dJ1_canEncode_9a6ad_0 (g_if_lt (tgt := 15) dJ1_canEncode_9a6ad_1 (by decide) (fun h1 => g_iconst ki_0 dJ1_canEncode_9a6ad_15 (g_zret rfl (by first | exact g_bi01 _ | exact Or.inl rfl | exact Or.inr rfl) dJ1_canEncode_9a6ad_16 (Nat.le_of_ble_eq_true rfl) (Nat.le_of_ble_eq_true rfl) ?q16)) (fun h1 => g_iload0 dJ1_canEncode_9a6ad_4 (g_sipush ks_255 dJ1_canEncode_9a6ad_5 (g_icmp_gt (tgt := 15) dJ1_canEncode_9a6ad_8 (by decide) (fun h8 => g_iconst ki_0 dJ1_canEncode_9a6ad_15 (g_zret rfl (by first | exact g_bi01 _ | exact Or.inl rfl | exact Or.inr rfl) dJ1_canEncode_9a6ad_16 (Nat.le_of_ble_eq_true rfl) (Nat.le_of_ble_eq_true rfl) ?q16')) (fun h8 => g_iconst ki_1 dJ1_canEncode_9a6ad_11 (g_goto (tgt := 16) dJ1_canEncode_9a6ad_12 (by decide) (g_zret rfl (by first | exact g_bi01 _ | exact Or.inl rfl | exact Or.inr rfl) dJ1_canEncode_9a6ad_16 (Nat.le_of_ble_eq_true rfl) (Nat.le_of_ble_eq_true rfl) ?q16'')))))))
  case q16 => omega
  case q16' => omega
  exact hQ _ _ ⟨rfl, rfl⟩
/-- the first place, of t from j on, that has the sign -/
def ixF (i : Nat) (c : Int32) : Nat → Nat → Int32
  | _, 0 => -1
  | j, t + 1 => if byS i j = c then nI j else ixF i c (j + 1) t
set_option maxRecDepth 20000 in
theorem c_ixChar (hE : g_E E adK adV ta) (hi : i < 15) (c : Int32) : g_Ci E mJ1_indexOfChar_4cfef (d + 1) [.ref (adV i), .int c, .int 0, .int (nI (lnS i))] [] (fun r w => r = ixF i c.toInt8.toInt32 0 (lnS i) ∧ w = []) := by
  have hN := g_E_N hE
  have h39 := lnS_le i hi
  refine g_enterI hN.1 (by decide) [some (.ref (adV i)), some (.int c), some (.int 0), some (.int (nI (lnS i))), none, none] rfl (Nat.le_of_ble_eq_true rfl) (fun A Q hQ => ?_)
  have tcm1 := tc_m1; have tc1 := tc_1
  have el := t_nI (n := lnS i) (by omega)
  have loop : ∀ t j, j + t = lnS i → ixF i c.toInt8.toInt32 0 (lnS i) = ixF i c.toInt8.toInt32 j t → G E mJ1_indexOfChar_4cfef (d + 1) 0 0 A Q 0 0 7 [some (.ref (adV i)), some (.int c), some (.int 0), some (.int (nI (lnS i))), some (.int c.toInt8.toInt32), some (.int (nI j))] [] [] := by
    intro t
    induction t with
    | zero =>
      intro j hj he
      have ej := t_nI (n := j) (by omega)
      refine g_iload5 dJ1_indexOfChar_4cfef_7 (g_iload3 dJ1_indexOfChar_4cfef_9 (g_icmp_ge (tgt := 31) dJ1_indexOfChar_4cfef_10 (by decide) (fun h10 => g_iconst ki_m1 dJ1_indexOfChar_4cfef_31 (g_iret rfl dJ1_indexOfChar_4cfef_32 (Nat.le_of_ble_eq_true rfl) (Nat.le_of_ble_eq_true rfl) ?q32)) (fun h10 => ?s13)))
      case s13 => omega
      case q32 => exact hQ _ _ ⟨he.symm, rfl⟩
    | succ t ih =>
      intro j hj he
      have ej := t_nI (n := j) (by omega)
      rw [ixF] at he
      refine g_iload5 dJ1_indexOfChar_4cfef_7 (g_iload3 dJ1_indexOfChar_4cfef_9 (g_icmp_ge (tgt := 31) dJ1_indexOfChar_4cfef_10 (by decide) (fun h10 => ?s31_2) (fun h10 => g_aload0 dJ1_indexOfChar_4cfef_13 (g_iload5 dJ1_indexOfChar_4cfef_14 (?c16_2)))))
      case s31_2 => omega
      case c16_2 =>
        refine g_baldV hE hi dJ1_indexOfChar_4cfef_16 (by omega) ?_
        rw [ej, Int.toNat_natCast]
        refine g_iload4 dJ1_indexOfChar_4cfef_17 (g_icmp_ne (tgt := 25) dJ1_indexOfChar_4cfef_19 (by decide) (fun h19 => g_iinc5 ki_1 dJ1_indexOfChar_4cfef_25 rfl rfl (g_goto (tgt := 7) dJ1_indexOfChar_4cfef_28 (by decide) (?s7_3))) (fun h19 => g_iload5 dJ1_indexOfChar_4cfef_22 (g_iret rfl dJ1_indexOfChar_4cfef_24 (Nat.le_of_ble_eq_true rfl) (Nat.le_of_ble_eq_true rfl) ?q24_3)))
        case q24_3 =>
          rw [if_pos (Int32.toInt_inj.mp h19)] at he
          exact hQ _ _ ⟨he.symm, rfl⟩
        case s7_3 =>
          rw [if_neg (fun q => h19 (by rw [q]))] at he
          rw [nI_1]
          exact ih (j + 1) (by omega) he
  refine g_iload1 dJ1_indexOfChar_4cfef_0 (g_i2b dJ1_indexOfChar_4cfef_1 (g_istore4 dJ1_indexOfChar_4cfef_2 rfl rfl (g_iload2 dJ1_indexOfChar_4cfef_4 (g_istore5 dJ1_indexOfChar_4cfef_5 rfl rfl (?s7_4)))))
  exact loop (lnS i) 0 (by omega) rfl
set_option maxRecDepth 20000 in
theorem c_l1index (hE : g_E E adK adV ta) (hi : i < 15) (hl : 0 < lnS i) {c : Int32} (h : 0 ≤ c.toInt ∧ c.toInt ≤ 255) : g_Ci E mJ1_indexOf_4cfef (d + 2) [.ref (adV i), .int c, .int 0, .int (nI (lnS i))] [] (fun r w => r = ixF i c.toInt8.toInt32 0 (lnS i) ∧ w = []) := by
  have hN := g_E_N hE
  have h39 := lnS_le i hi
  have el := t_nI (n := lnS i) (by omega)
  refine g_enterI hN.1 (by decide) [some (.ref (adV i)), some (.int c), some (.int 0), some (.int (nI (lnS i)))] rfl (Nat.le_of_ble_eq_true rfl) (fun A Q hQ => ?_)
  have tcm1 := tc_m1; have tc0 := tc_0
  refine g_iload1 dJ1_indexOf_4cfef_0 (?c1)
  refine g_S1i dJ1_indexOf_4cfef_1 mv_J1_88 rfl (Nat.le_of_ble_eq_true rfl) (Nat.le_of_ble_eq_true rfl) (r_canEnc h hN) (fun r1 w1 hq => ?_)
  obtain ⟨rfl, rfl⟩ := hq
  have e1 : (if nI (lnS i) < nI (lnS i) then nI (lnS i) else nI (lnS i)) = nI (lnS i) := by simp
  have e2 : (if (0 : Int32) < 0 then (0 : Int32) else 0) = 0 := by simp
  refine g_if_ne (tgt := 9) dJ1_indexOf_4cfef_4 (by decide) (fun h4 => g_iload2 dJ1_indexOf_4cfef_9 (g_iconst ki_0 dJ1_indexOf_4cfef_10 (g_mmax wm_J1_92 dJ1_indexOf_4cfef_11 (Nat.le_of_ble_eq_true rfl) (Nat.le_of_ble_eq_true rfl) rfl (g_istore2 dJ1_indexOf_4cfef_14 rfl rfl (g_iload3 dJ1_indexOf_4cfef_15 (g_aload0 dJ1_indexOf_4cfef_16 (?c17_2))))))) (fun h4 => g_iconst ki_m1 dJ1_indexOf_4cfef_7 (g_iret rfl dJ1_indexOf_4cfef_8 (Nat.le_of_ble_eq_true rfl) (Nat.le_of_ble_eq_true rfl) ?q8_2))
  case q8_2 => exact absurd h4 (by decide)
  case c17_2 =>
    refine g_alenV hE hi dJ1_indexOf_4cfef_17 ?_
    refine g_mmin wm_J1_38 dJ1_indexOf_4cfef_18 (Nat.le_of_ble_eq_true rfl) (Nat.le_of_ble_eq_true rfl) rfl (g_istore3 dJ1_indexOf_4cfef_21 rfl rfl (g_iload2 dJ1_indexOf_4cfef_22 (g_iload3 dJ1_indexOf_4cfef_23 (g_icmp_lt (tgt := 29) dJ1_indexOf_4cfef_24 (by decide) (fun h24 => g_aload0 dJ1_indexOf_4cfef_29 (g_iload1 dJ1_indexOf_4cfef_30 (g_iload2 dJ1_indexOf_4cfef_31 (g_iload3 dJ1_indexOf_4cfef_32 (?c33_3))))) (fun h24 => g_iconst ki_m1 dJ1_indexOf_4cfef_27 (g_iret rfl dJ1_indexOf_4cfef_28 (Nat.le_of_ble_eq_true rfl) (Nat.le_of_ble_eq_true rfl) ?q28_3))))))
    all_goals rw [e1, e2] at *
    case q28_3 => omega
    case c33_3 =>
      refine g_S4i dJ1_indexOf_4cfef_33 mv_J1_95 rfl (Nat.le_of_ble_eq_true rfl) (Nat.le_of_ble_eq_true rfl) (c_ixChar hE hi c) (fun r1 w1 hq => ?_)
      obtain ⟨rfl, rfl⟩ := hq
      refine g_iret rfl dJ1_indexOf_4cfef_36 (Nat.le_of_ble_eq_true rfl) (Nat.le_of_ble_eq_true rfl) ?q36_4
      exact hQ _ _ ⟨rfl, rfl⟩
set_option maxRecDepth 20000 in
theorem c_index2 (hE : g_E E adK adV ta) (hi : i < 15) (hl : 0 < lnS i) {c : Int32} (h : 0 ≤ c.toInt ∧ c.toInt ≤ 255) : g_Ci E mJ0_indexOf_7cf53 (d + 3) [.ref (adK i), .int c, .int 0] [] (fun r w => r = ixF i c.toInt8.toInt32 0 (lnS i) ∧ w = []) := by
  have hN := g_E_N hE
  refine g_enterI hN.1 (by decide) [some (.ref (adK i)), some (.int c), some (.int 0)] rfl (Nat.le_of_ble_eq_true rfl) (fun A Q hQ => ?_)
  skip
  refine g_aload0 dJ0_indexOf_7cf53_0 (?c1)
  refine g_VS0i hE hi dJ0_indexOf_7cf53_1 mv_J0_492 rfl rfl (Nat.le_of_ble_eq_true rfl) (Nat.le_of_ble_eq_true rfl) (c_isLatin1 hE hi) (fun r w hq => ?_)
  obtain ⟨rfl, rfl⟩ := hq
  refine g_if_eq (tgt := 23) dJ0_indexOf_7cf53_4 (by decide) (fun h4 => ?s23_2) (fun h4 => g_aload0 dJ0_indexOf_7cf53_7 (?c8_2))
  case s23_2 => exact absurd h4 (by decide)
  refine g_getV hE hi fs_J0_9 dJ0_indexOf_7cf53_8 ?_
  refine g_iload1 dJ0_indexOf_7cf53_11 (g_iload2 dJ0_indexOf_7cf53_12 (g_aload0 dJ0_indexOf_7cf53_13 (?c14_3)))
  refine g_VS0i hE hi dJ0_indexOf_7cf53_14 mv_J0_505 rfl rfl (Nat.le_of_ble_eq_true rfl) (Nat.le_of_ble_eq_true rfl) (c_strLen hE hi) (fun r w hq => ?_)
  obtain ⟨rfl, rfl⟩ := hq
  refine g_S4i dJ0_indexOf_7cf53_17 mv_J0_637 rfl (Nat.le_of_ble_eq_true rfl) (Nat.le_of_ble_eq_true rfl) (c_l1index hE hi hl h) (fun r1 w1 hq => ?_)
  obtain ⟨rfl, rfl⟩ := hq
  refine g_goto (tgt := 36) dJ0_indexOf_7cf53_20 (by decide) (g_iret rfl dJ0_indexOf_7cf53_36 (Nat.le_of_ble_eq_true rfl) (Nat.le_of_ble_eq_true rfl) ?q36_4)
  exact hQ _ _ ⟨rfl, rfl⟩
set_option maxRecDepth 20000 in
theorem c_index1 (hE : g_E E adK adV ta) (hi : i < 15) (hl : 0 < lnS i) {c : Int32} (h : 0 ≤ c.toInt ∧ c.toInt ≤ 255) : g_Ci E mJ0_indexOf_0f7a4 (d + 4) [.ref (adK i), .int c] [] (fun r w => r = ixF i c.toInt8.toInt32 0 (lnS i) ∧ w = []) := by
  have hN := g_E_N hE
  refine g_enterI hN.1 (by decide) [some (.ref (adK i)), some (.int c)] rfl (Nat.le_of_ble_eq_true rfl) (fun A Q hQ => ?_)
  have tc0 := tc_0
  refine g_aload0 dJ0_indexOf_0f7a4_0 (g_iload1 dJ0_indexOf_0f7a4_1 (g_iconst ki_0 dJ0_indexOf_0f7a4_2 (?c3)))
  refine g_VS2i hE hi dJ0_indexOf_0f7a4_3 mv_J0_633 rfl rfl (Nat.le_of_ble_eq_true rfl) (Nat.le_of_ble_eq_true rfl) (c_index2 hE hi hl h) (fun r w hq => ?_)
  obtain ⟨rfl, rfl⟩ := hq
  refine g_iret rfl dJ0_indexOf_0f7a4_6 (Nat.le_of_ble_eq_true rfl) (Nat.le_of_ble_eq_true rfl) ?q6_2
  exact hQ _ _ ⟨rfl, rfl⟩
end S31
