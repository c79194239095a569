theorem slc_snoc {T : List Nat} {s i b : Nat} (hs : s ≤ i) (hb : T[i]? = some b) : slc T s (i + 1) = slc T s i ++ [b] := by
  unfold slc
  rw [show i + 1 - s = i - s + 1 by omega, List.take_succ, List.getElem?_drop, show s + (i - s) = i by omega, hb]; rfl
theorem nval_snoc (l : List Nat) (b : Nat) : nval (l ++ [b]) = nval l * 10 + (b - 48) := by
  unfold nval; rw [List.foldl_append]; rfl
theorem slc_nil (T : List Nat) (s : Nat) : slc T s s = [] := by unfold slc; rw [Nat.sub_self]; rfl
section S34
variable {E : GE} {d : Nat} {a : Nat → Nat} {k : Nat} {adK adV ta : Nat → Nat} {T : List Nat} {tp : Nat → Int32}
set_option maxRecDepth 20000 in
set_option maxHeartbeats 1000000 in
theorem c_passNumber (hN : g_N E) (hT : tpOK T tp) {s : Nat} (hs : s ≤ T.length) (tk nu : Int32) : g_Ci E mX2_passNumber (d + 2) [.ref (a k)] (rdrW E a k tp (nI T.length) (nI s) tk (nI s) nu) (fun r w => r = nI (if 4 < scan digB T s - s then 23 else 21) ∧ w = rdrW E a k tp (nI T.length) (nI (scan digB T s)) tk (nI s) (nI (nval (slc T s (scan digB T s))))) := by
  obtain ⟨h1, h2, h3⟩ := hT
  refine g_enterI hN.1 (by decide) [some (.ref (a k))] rfl (Nat.le_of_ble_eq_true rfl) (fun A Q hQ => ?_)
  have tc0 := tc_0; have tc1 := tc_1; have tc4 := tc_4; have tc10 := tc_10; have tc21 := tc_21; have tc23 := tc_23; have tc48 := tc_48
  have es := t_nI (n := s) (by omega)
  have el := t_nI (n := T.length) (by omega)
  generalize hf : scan digB T s = f at hQ
  have hfT : f ≤ T.length := by rw [← hf]; exact scan_le _ hs
  have hsf : s ≤ f := by rw [← hf]; exact scan_ge _ _ _
  have ef := t_nI (n := f) (by omega)
  have efs : (nI f - nI s).toInt = (f : Int) - s := by rw [t_sub (by omega) (by omega)]; omega
  have loop : ∀ t i, i + t = f → s ≤ i → scan digB T i = f → G E mX2_passNumber (d + 2) 0 0 A Q 0 0 5 [some (.ref (a k))] [] (rdrW E a k tp (nI T.length) (nI i) tk (nI s) (nI (nval (slc T s i)))) := by
    intro t
    induction t with
    | zero =>
      intro i hi hsi hsc
      have ei := t_nI (n := i) (by omega)
      have hif : i = f := by omega
      subst hif
      have fin : G E mX2_passNumber (d + 2) 0 0 A Q 0 0 68 [some (.ref (a k))] [] (rdrW E a k tp (nI T.length) (nI i) tk (nI s) (nI (nval (slc T s i)))) := by
        refine g_aload0 dX2_passNumber_68 (g_get fl_X2_26 0 rfl rfl dX2_passNumber_69 (g_aload0 dX2_passNumber_72 (g_get fl_X2_34 0 rfl rfl dX2_passNumber_73 (g_isub dX2_passNumber_76 (g_iconst ki_4 dX2_passNumber_77 (g_icmp_le (tgt := 86) dX2_passNumber_78 (by decide) (fun h78 => g_bipush kb_21 dX2_passNumber_86 (g_iret rfl dX2_passNumber_88 (Nat.le_of_ble_eq_true rfl) (Nat.le_of_ble_eq_true rfl) ?q88)) (fun h78 => g_bipush kb_23 dX2_passNumber_81 (g_goto (tgt := 88) dX2_passNumber_83 (by decide) (g_iret rfl dX2_passNumber_88 (Nat.le_of_ble_eq_true rfl) (Nat.le_of_ble_eq_true rfl) ?q88')))))))))
        case q88 => exact hQ _ _ ⟨by rw [if_neg (by omega)]; rfl, rfl⟩
        case q88' => exact hQ _ _ ⟨by rw [if_pos (by omega)]; rfl, rfl⟩
      refine g_aload0 dX2_passNumber_5 (g_get fl_X2_26 0 rfl rfl dX2_passNumber_6 (g_aload0 dX2_passNumber_9 (g_get fl_X2_22 0 rfl rfl dX2_passNumber_10 (g_icmp_ge (tgt := 68) dX2_passNumber_13 (by decide) (fun h13 => ?s68_2) (fun h13 => g_aload0 dX2_passNumber_16 (g_get fl_X2_9 0 rfl rfl dX2_passNumber_17 (g_aload0 dX2_passNumber_20 (g_get fl_X2_26 0 rfl rfl dX2_passNumber_21 (g_iaload 1 rfl dX2_passNumber_24 ?b24_2 (r_X2_isDigit hN mv_X2_96 dX2_passNumber_25 (Nat.le_of_ble_eq_true rfl) (Nat.le_of_ble_eq_true rfl) rfl (g_if_eq (tgt := 68) dX2_passNumber_28 (by decide) (fun h28 => ?s68_2') (fun h28 => ?s31_2))))))))))))
      case s68_2 => exact fin
      case b24_2 => omega
      case s68_2' => exact fin
      case s31_2 =>
        exfalso
        obtain ⟨b, hb⟩ : ∃ b, T[i]? = some b := ⟨T[i], List.getElem?_eq_getElem (by omega)⟩
        have hb256 := h2 b (List.mem_of_getElem? hb)
        have eb := t_nI (n := b) (by omega)
        rw [ei, Int.toNat_natCast, h3.at hb, eb] at h28
        have hz := g_biz (p := ((48 : Int) ≤ (b : Int) ∧ (b : Int) ≤ 57))
        have hlb : digB b = true := decide_eq_true (by omega)
        have := scan_yes hb hlb
        have := scan_ge digB T (i + 1)
        omega
    | succ t ih =>
      intro i hi hsi hsc
      have ei := t_nI (n := i) (by omega)
      obtain ⟨b, hb⟩ : ∃ b, T[i]? = some b := ⟨T[i], List.getElem?_eq_getElem (by omega)⟩
      have hb256 := h2 b (List.mem_of_getElem? hb)
      have eb := t_nI (n := b) (by omega)
      have hlb : digB b = true := by
        by_cases q : digB b = true
        · exact q
        · have := scan_no (P := digB) (T := T) (p := i) (fun c hc => by rw [hb] at hc; cases hc; simpa using q)
          omega
      have hlb2 : 48 ≤ b ∧ b ≤ 57 := of_decide_eq_true hlb
      have hz := g_biz (p := ((48 : Int) ≤ (b : Int) ∧ (b : Int) ≤ 57))
      refine g_aload0 dX2_passNumber_5 (g_get fl_X2_26 0 rfl rfl dX2_passNumber_6 (g_aload0 dX2_passNumber_9 (g_get fl_X2_22 0 rfl rfl dX2_passNumber_10 (g_icmp_ge (tgt := 68) dX2_passNumber_13 (by decide) (fun h13 => ?s68_3) (fun h13 => g_aload0 dX2_passNumber_16 (g_get fl_X2_9 0 rfl rfl dX2_passNumber_17 (g_aload0 dX2_passNumber_20 (g_get fl_X2_26 0 rfl rfl dX2_passNumber_21 (g_iaload 1 rfl dX2_passNumber_24 ?b24_3 (r_X2_isDigit hN mv_X2_96 dX2_passNumber_25 (Nat.le_of_ble_eq_true rfl) (Nat.le_of_ble_eq_true rfl) rfl (g_if_eq (tgt := 68) dX2_passNumber_28 (by decide) (fun h28 => ?s68_3') (fun h28 => g_aload0 dX2_passNumber_31 (g_aload0 dX2_passNumber_32 (g_get fl_X2_37 0 rfl rfl dX2_passNumber_33 (g_bipush kb_10 dX2_passNumber_36 (g_imul dX2_passNumber_38 (g_aload0 dX2_passNumber_39 (g_get fl_X2_9 0 rfl rfl dX2_passNumber_40 (g_aload0 dX2_passNumber_43 (g_get fl_X2_26 0 rfl rfl dX2_passNumber_44 (g_iaload 1 rfl dX2_passNumber_47 ?b47_3 (g_bipush kb_48 dX2_passNumber_48 (g_isub dX2_passNumber_50 (g_iadd dX2_passNumber_51 (g_put fl_X2_37 fp_2_6 0 rfl rfl rfl (Nat.le_of_ble_eq_true rfl) dX2_passNumber_52 (g_aload0 dX2_passNumber_55 (g_dup dX2_passNumber_56 rfl (g_get fl_X2_26 0 rfl rfl dX2_passNumber_57 (g_iconst ki_1 dX2_passNumber_60 (g_iadd dX2_passNumber_61 (g_put fl_X2_26 fp_2_3 0 rfl rfl rfl (Nat.le_of_ble_eq_true rfl) dX2_passNumber_62 (g_goto (tgt := 5) dX2_passNumber_65 (by decide) (?s5_3)))))))))))))))))))))))))))))))))
      case s68_3 => omega
      case b24_3 => omega
      case s68_3' => rw [ei, Int.toNat_natCast, h3.at hb, eb] at h28; omega
      case b47_3 => omega
      case s5_3 =>
        have := ih (i + 1) (by omega) (by omega) (by rw [← hsc]; exact (scan_yes hb hlb).symm)
        rw [slc_snoc hsi hb, nval_snoc, ← nI_1, ← nI_add, ← pk_mul, ← pk_sub hlb2.1] at this
        rw [ei, Int.toNat_natCast, h3.at hb]
        exact this
  refine g_aload0 dX2_passNumber_0 (g_iconst ki_0 dX2_passNumber_1 (g_put fl_X2_37 fp_2_6 0 rfl rfl rfl (Nat.le_of_ble_eq_true rfl) dX2_passNumber_2 (?s5_4)))
  have := loop (f - s) s (by omega) (Nat.le_refl _) hf
  rw [slc_nil] at this
  exact this
theorem sgn_ix {b : Nat} (hb : b < 256) : ∀ t j, j + t = 8 → nI (sgnF b j t) = (if (ixF 14 (nI b).toInt8.toInt32 j t).toInt < 0 then 23 else 12 + ixF 14 (nI b).toInt8.toInt32 j t) ∧ sgnF b j t < 24 := by
  have key : ∀ b, b < 256 → ∀ j, j < 8 → (byS 14 j = (nI b).toInt8.toInt32 ↔ sgL.getD j 0 = b) := by decide +kernel
  intro t
  induction t with
  | zero =>
    intro j _
    unfold sgnF ixF
    exact ⟨by decide, by decide⟩
  | succ t ih =>
    intro j hj
    unfold sgnF ixF
    have hk := key b hb j (by omega)
    by_cases h : sgL.getD j 0 = b
    · rw [if_pos h, if_pos (hk.mpr h), if_neg (by rw [t_nI (by omega)]; omega)]
      exact ⟨by rw [← nI_add]; rfl, by omega⟩
    · rw [if_neg h, if_neg (fun q => h (hk.mp q))]
      exact ih (j + 1) (by omega)
def Rdr (E : GE) (a : Nat → Nat) (k : Nat) (T : List Nat) (P : PS) (w : va_W) : Prop := ∃ tp nu, w = rdrW E a k tp (nI T.length) (nI P.2.2.1) (nI P.1) (nI P.2.1) nu ∧ tpOK T tp ∧ P.1 < 24 ∧ P.2.1 ≤ T.length ∧ P.2.2.1 ≤ T.length ∧ (P.1 = 21 → nu = nI P.2.2.2 ∧ P.2.2.2 < 10000)
theorem wcodeF_lt (l : List Nat) : ∀ t j, j + t ≤ 12 → wcodeF l j t < 24
  | 0, _, _ => by unfold wcodeF; omega
  | t + 1, j, h => by
    unfold wcodeF
    split
    · omega
    · exact wcodeF_lt l t (j + 1) (by omega)
theorem wcodeF_21 (l : List Nat) : ∀ t j, j + t ≤ 12 → wcodeF l j t ≠ 21
  | 0, _, _ => by unfold wcodeF; omega
  | t + 1, j, h => by
    unfold wcodeF
    split
    · omega
    · exact wcodeF_21 l t (j + 1) (by omega)
theorem sgnF_21 (b : Nat) : ∀ t j, j + t ≤ 8 → sgnF b j t ≠ 21
  | 0, _, _ => by unfold sgnF; omega
  | t + 1, j, h => by
    unfold sgnF
    split
    · omega
    · exact sgnF_21 b t (j + 1) (by omega)
theorem nval_lt : ∀ (l : List Nat), (∀ b ∈ l, b ≤ 57) → ∀ v, l.foldl (fun v b => v * 10 + (b - 48)) v < (v + 1) * 10 ^ l.length
  | [], _, v => by simp
  | b :: l, h, v => by
    have hb := h b List.mem_cons_self
    have := nval_lt l (fun c hc => h c (List.mem_cons_of_mem _ hc)) (v * 10 + (b - 48))
    rw [List.foldl_cons]
    refine Nat.lt_of_lt_of_le this ?_
    rw [List.length_cons, Nat.pow_succ]
    have h2 : v * 10 + (b - 48) + 1 ≤ (v + 1) * 10 := by omega
    calc (v * 10 + (b - 48) + 1) * 10 ^ l.length ≤ (v + 1) * 10 * 10 ^ l.length := Nat.mul_le_mul_right _ h2
      _ = (v + 1) * (10 ^ l.length * 10) := by rw [Nat.mul_assoc, Nat.mul_comm 10]
theorem tw_all (P : Nat → Bool) : ∀ (l : List Nat) (b : Nat), b ∈ l.takeWhile P → P b = true
  | [], b, h => by simp at h
  | c :: l, b, h => by
    rw [List.takeWhile_cons] at h
    by_cases hc : P c = true
    · rw [hc] at h
      rcases List.mem_cons.mp h with q | q
      · rw [q]; exact hc
      · exact tw_all P l b q
    · simp [hc] at h
theorem scan_all {P : Nat → Bool} {T : List Nat} {p : Nat} : ∀ b ∈ slc T p (scan P T p), P b = true := by
  intro b hb
  unfold slc scan at hb
  rw [show p + ((T.drop p).takeWhile P).length - p = ((T.drop p).takeWhile P).length by omega] at hb
  have h1 : (T.drop p).take ((T.drop p).takeWhile P).length = (T.drop p).takeWhile P := by
    have := List.takeWhile_prefix P (l := T.drop p)
    exact (List.prefix_iff_eq_take.mp this).symm
  rw [h1] at hb
  exact tw_all P _ b hb
theorem nval_4 {T : List Nat} {s : Nat} (hs : s ≤ T.length) (h : ¬ 4 < scan digB T s - s) : nval (slc T s (scan digB T s)) < 10000 := by
  have h1 := nval_lt (slc T s (scan digB T s)) (fun b hb => (of_decide_eq_true (scan_all b hb)).2) 0
  rw [slc_len (scan_le _ hs)] at h1
  have h2 : 10 ^ (scan digB T s - s) ≤ 10 ^ 4 := Nat.pow_le_pow_right (by omega) (by omega)
  unfold nval
  omega
set_option maxRecDepth 20000 in
set_option maxHeartbeats 2000000 in
theorem c_step0 (hE : g_E E adK adV ta) {p3 : Nat} (hT : tpOK T tp) (hp3 : p3 ≤ T.length) (p1 p2 nu : Int32) : g_Cv E mX2_step (d + 7) [.ref (a k)] (rdrW E a k tp (nI T.length) (nI p3) p1 p2 nu) (fun w' => Rdr E a k T (lexP T p3) w') := by
  have hN := g_E_N hE
  have hT' := hT
  obtain ⟨h1, h2, h3⟩ := hT
  refine g_enterV hN.1 (by decide) [some (.ref (a k)), none] rfl (Nat.le_of_ble_eq_true rfl) (fun A Q hQ => ?_)
  have tc1 := tc_1; have tc10 := tc_10; have tc12 := tc_12; have tc22 := tc_22; have tc23 := tc_23; have tc32 := tc_32
  have el := t_nI (n := T.length) (by omega)
  unfold lexP at hQ
  have hgS := scan_le blankB hp3
  have hge := scan_ge blankB T p3
  generalize hg : scan blankB T p3 = s at hQ hgS hge
  dsimp only at hQ
  have es := t_nI (n := s) (by omega)
  have main : G E mX2_step (d + 7) 0 0 A Q 0 0 52 [some (.ref (a k)), none] [] (rdrW E a k tp (nI T.length) (nI s) p1 p2 nu) := by
    by_cases hsl : s < T.length
    · obtain ⟨b, hb⟩ : ∃ b, T[s]? = some b := ⟨T[s], List.getElem?_eq_getElem hsl⟩
      have hb256 := h2 b (List.mem_of_getElem? hb)
      have eb := t_nI (n := b) (by omega)
      rw [hb] at hQ
      dsimp only at hQ
      have hzl := g_biz (p := ((97 : Int) ≤ (b : Int) ∧ (b : Int) ≤ 122))
      have hzd := g_biz (p := ((48 : Int) ≤ (b : Int) ∧ (b : Int) ≤ 57))
      have hgb := h3.at hb
      refine g_aload0 dX2_step_52 (g_aload0 dX2_step_53 (g_get fl_X2_26 0 rfl rfl dX2_step_54 (g_put fl_X2_34 fp_2_5 0 rfl rfl rfl (Nat.le_of_ble_eq_true rfl) dX2_step_57 (g_aload0 dX2_step_60 (g_get fl_X2_26 0 rfl rfl dX2_step_61 (g_aload0 dX2_step_64 (g_get fl_X2_22 0 rfl rfl dX2_step_65 (g_icmp_lt (tgt := 80) dX2_step_68 (by decide) (fun h68 => g_aload0 dX2_step_80 (g_get fl_X2_9 0 rfl rfl dX2_step_81 (g_aload0 dX2_step_84 (g_get fl_X2_26 0 rfl rfl dX2_step_85 (g_iaload 1 rfl dX2_step_88 ?b88 (r_X2_isLetter hN mv_X2_89 dX2_step_89 (Nat.le_of_ble_eq_true rfl) (Nat.le_of_ble_eq_true rfl) rfl (g_if_eq (tgt := 106) dX2_step_92 (by decide) (fun h92 => g_aload0 dX2_step_106 (g_get fl_X2_9 0 rfl rfl dX2_step_107 (g_aload0 dX2_step_110 (g_get fl_X2_26 0 rfl rfl dX2_step_111 (g_iaload 1 rfl dX2_step_114 ?b114 (r_X2_isDigit hN mv_X2_96 dX2_step_115 (Nat.le_of_ble_eq_true rfl) (Nat.le_of_ble_eq_true rfl) rfl (g_if_eq (tgt := 132) dX2_step_118 (by decide) (fun h118 => ?c132) (fun h118 => g_aload0 dX2_step_121 (g_aload0 dX2_step_122 (?c123)))))))))) (fun h92 => g_aload0 dX2_step_95 (g_aload0 dX2_step_96 (?c97)))))))))) (fun h68 => ?s71)))))))))
      case s71 => omega
      case b88 => omega
      all_goals rw [es, Int.toNat_natCast, hgb, eb] at h92
      case c97 =>
        have hlb : letB b = true := decide_eq_true (by omega)
        rw [hlb] at hQ
        simp only [if_true] at hQ
        dsimp only [List.set]
        refine g_V0i dX2_step_97 mv_X2_92 0 rfl rfl rfl (Nat.le_of_ble_eq_true rfl) (Nat.le_of_ble_eq_true rfl) (c_passWord hE hT' (Nat.le_refl s) (by omega) _ _) (fun r1 w1 hq => ?_)
        obtain ⟨rfl, rfl⟩ := hq
        refine g_put fl_X2_31 fp_2_4 0 rfl rfl rfl (Nat.le_of_ble_eq_true rfl) dX2_step_100 (g_goto (tgt := 175) dX2_step_103 (by decide) (g_vret rfl dX2_step_175 (Nat.le_of_ble_eq_true rfl) (Nat.le_of_ble_eq_true rfl) ?q175_2))
        have hle := scan_le letB (show s ≤ T.length by omega)
        exact hQ _ ⟨tp, _, rfl, hT', wcodeF_lt _ 12 0 (by omega), hgS, hle, fun q => absurd q (wcodeF_21 _ 12 0 (by omega))⟩
      all_goals have hlb : letB b = false := decide_eq_false (by omega)
      all_goals rw [hlb] at hQ
      all_goals simp only [Bool.false_eq_true, if_false] at hQ
      case b114 => omega
      all_goals rw [es, Int.toNat_natCast, hgb, eb] at h118
      case c123 =>
        have hdb : digB b = true := decide_eq_true (by omega)
        rw [hdb] at hQ
        simp only [if_true] at hQ
        dsimp only [List.set]
        refine g_V0i dX2_step_123 mv_X2_99 0 rfl rfl rfl (Nat.le_of_ble_eq_true rfl) (Nat.le_of_ble_eq_true rfl) (c_passNumber hN hT' (show s ≤ T.length by omega) _ _) (fun r1 w1 hq => ?_)
        obtain ⟨rfl, rfl⟩ := hq
        refine g_put fl_X2_31 fp_2_4 0 rfl rfl rfl (Nat.le_of_ble_eq_true rfl) dX2_step_126 (g_goto (tgt := 175) dX2_step_129 (by decide) (g_vret rfl dX2_step_175 (Nat.le_of_ble_eq_true rfl) (Nat.le_of_ble_eq_true rfl) ?q175_3))
        have hle := scan_le digB (show s ≤ T.length by omega)
        refine hQ _ ⟨tp, _, rfl, hT', ?_, hgS, hle, ?_⟩
        · dsimp only; split <;> omega
        · intro q
          dsimp only at q ⊢
          refine ⟨rfl, nval_4 (by omega) (fun h => ?_)⟩
          rw [if_pos h] at q
          cases q
      case c132 =>
        have hdb : digB b = false := decide_eq_false (by omega)
        rw [hdb] at hQ
        simp only [Bool.false_eq_true, if_false] at hQ
        have h255 : ((nI b).toUInt32 % 65536).toInt32 = nI b := by
          rw [pk_char, pk_tn (by omega), show b % 65536 = b by omega]
        refine g_ldcS hE 14 rfl dX2_step_132 ?_
        refine g_aload0 dX2_step_134 (g_get fl_X2_9 0 rfl rfl dX2_step_135 (g_aload0 dX2_step_138 (g_get fl_X2_26 0 rfl rfl dX2_step_139 (g_iaload 1 rfl dX2_step_142 ?b142_4 (g_i2c dX2_step_143 (?c144_4))))))
        case b142_4 => omega
        case c144_4 =>
          rw [es, Int.toNat_natCast, hgb, h255]
          refine g_VS1i hE (by omega) dX2_step_144 mv_X2_104 rfl rfl (Nat.le_of_ble_eq_true rfl) (Nat.le_of_ble_eq_true rfl) ((c_index1 hE (i := 14) (by omega) (by decide) (c := nI b) (by omega)).frame (X := []) (Y := _)) (fun r w hq => ?_)
          obtain ⟨w3, ⟨rfl, rfl⟩, rfl⟩ := hq
          have hsg := sgn_ix hb256 8 0 rfl
          rw [show lnS 14 = 8 from sgn_ok.1]
          refine g_istore1 dX2_step_147 rfl rfl (g_aload0 dX2_step_148 (g_iload1 dX2_step_149 (g_if_ge (tgt := 158) dX2_step_150 (by decide) (fun h150 => g_bipush kb_12 dX2_step_158 (g_iload1 dX2_step_160 (g_iadd dX2_step_161 (g_put fl_X2_31 fp_2_4 0 rfl rfl rfl (Nat.le_of_ble_eq_true rfl) dX2_step_162 (g_aload0 dX2_step_165 (g_dup dX2_step_166 rfl (g_get fl_X2_26 0 rfl rfl dX2_step_167 (g_iconst ki_1 dX2_step_170 (g_iadd dX2_step_171 (g_put fl_X2_26 fp_2_3 0 rfl rfl rfl (Nat.le_of_ble_eq_true rfl) dX2_step_172 (g_vret rfl dX2_step_175 (Nat.le_of_ble_eq_true rfl) (Nat.le_of_ble_eq_true rfl) ?q175_5))))))))))) (fun h150 => g_bipush kb_23 dX2_step_153 (g_goto (tgt := 162) dX2_step_155 (by decide) (g_put fl_X2_31 fp_2_4 0 rfl rfl rfl (Nat.le_of_ble_eq_true rfl) dX2_step_162 (g_aload0 dX2_step_165 (g_dup dX2_step_166 rfl (g_get fl_X2_26 0 rfl rfl dX2_step_167 (g_iconst ki_1 dX2_step_170 (g_iadd dX2_step_171 (g_put fl_X2_26 fp_2_3 0 rfl rfl rfl (Nat.le_of_ble_eq_true rfl) dX2_step_172 (g_vret rfl dX2_step_175 (Nat.le_of_ble_eq_true rfl) (Nat.le_of_ble_eq_true rfl) ?q175_5')))))))))))))
          case q175_5 =>
            rw [if_neg (by omega)] at hsg
            refine hQ _ ⟨tp, nu, ?_, hT', hsg.2, hgS, by dsimp only; omega, fun q => absurd q (sgnF_21 _ 8 0 (by omega))⟩
            dsimp only
            rw [hsg.1, ← nI_1]
            rfl
          case q175_5' =>
            rw [if_pos (by omega)] at hsg
            refine hQ _ ⟨tp, nu, ?_, hT', hsg.2, hgS, by dsimp only; omega, fun q => absurd q (sgnF_21 _ 8 0 (by omega))⟩
            dsimp only
            rw [hsg.1, ← nI_1]
            rfl
    · rw [List.getElem?_eq_none (by omega)] at hQ
      dsimp only at hQ
      refine g_aload0 dX2_step_52 (g_aload0 dX2_step_53 (g_get fl_X2_26 0 rfl rfl dX2_step_54 (g_put fl_X2_34 fp_2_5 0 rfl rfl rfl (Nat.le_of_ble_eq_true rfl) dX2_step_57 (g_aload0 dX2_step_60 (g_get fl_X2_26 0 rfl rfl dX2_step_61 (g_aload0 dX2_step_64 (g_get fl_X2_22 0 rfl rfl dX2_step_65 (g_icmp_lt (tgt := 80) dX2_step_68 (by decide) (fun h68 => ?s80_6) (fun h68 => g_aload0 dX2_step_71 (g_bipush kb_22 dX2_step_72 (g_put fl_X2_31 fp_2_4 0 rfl rfl rfl (Nat.le_of_ble_eq_true rfl) dX2_step_74 (g_goto (tgt := 175) dX2_step_77 (by decide) (g_vret rfl dX2_step_175 (Nat.le_of_ble_eq_true rfl) (Nat.le_of_ble_eq_true rfl) ?q175_6)))))))))))))
      case s80_6 => omega
      case q175_6 => exact hQ _ ⟨tp, nu, rfl, hT', by dsimp only; omega, hgS, hgS, fun q => by cases q⟩
  have loop : ∀ t i, i + t = s → scan blankB T i = s → G E mX2_step (d + 7) 0 0 A Q 0 0 0 [some (.ref (a k)), none] [] (rdrW E a k tp (nI T.length) (nI i) p1 p2 nu) := by
    intro t
    induction t with
    | zero =>
      intro i hi hsc
      have ei := t_nI (n := i) (by omega)
      have his : i = s := by omega
      subst his
      have hno : ∀ b, T[i]? = some b → blankB b = false := by
        intro b hb
        by_cases q : blankB b = true
        · have := scan_yes hb q
          have := scan_ge blankB T (i + 1)
          omega
        · simpa using q
      by_cases hsl : i < T.length
      · obtain ⟨b, hb⟩ : ∃ b, T[i]? = some b := ⟨T[i], List.getElem?_eq_getElem hsl⟩
        have hb256 := h2 b (List.mem_of_getElem? hb)
        have eb := t_nI (n := b) (by omega)
        have hgb := h3.at hb
        have hbl := hno b hb
        have hbl2 : b ≠ 32 ∧ b ≠ 10 := by
          refine ⟨fun q => ?_, fun q => ?_⟩ <;> subst q <;> exact absurd hbl (by decide)
        refine g_aload0 dX2_step_0 (g_get fl_X2_26 0 rfl rfl dX2_step_1 (g_aload0 dX2_step_4 (g_get fl_X2_22 0 rfl rfl dX2_step_5 (g_icmp_ge (tgt := 52) dX2_step_8 (by decide) (fun h8 => ?s52_7) (fun h8 => g_aload0 dX2_step_11 (g_get fl_X2_9 0 rfl rfl dX2_step_12 (g_aload0 dX2_step_15 (g_get fl_X2_26 0 rfl rfl dX2_step_16 (g_iaload 1 rfl dX2_step_19 ?b19_7 (g_bipush kb_32 dX2_step_20 (g_icmp_eq (tgt := 39) dX2_step_22 (by decide) (fun h22 => ?s39_7) (fun h22 => g_aload0 dX2_step_25 (g_get fl_X2_9 0 rfl rfl dX2_step_26 (g_aload0 dX2_step_29 (g_get fl_X2_26 0 rfl rfl dX2_step_30 (g_iaload 1 rfl dX2_step_33 ?b33_7 (g_bipush kb_10 dX2_step_34 (g_icmp_ne (tgt := 52) dX2_step_36 (by decide) (fun h36 => ?s52_7') (fun h36 => ?s39_7')))))))))))))))))))
        case s52_7 => exact main
        case b19_7 => omega
        case s39_7 => rw [ei, Int.toNat_natCast, hgb, eb] at h22; omega
        case b33_7 => omega
        case s52_7' => exact main
        case s39_7' => rw [ei, Int.toNat_natCast, hgb, eb] at h36; omega
      ·
        refine g_aload0 dX2_step_0 (g_get fl_X2_26 0 rfl rfl dX2_step_1 (g_aload0 dX2_step_4 (g_get fl_X2_22 0 rfl rfl dX2_step_5 (g_icmp_ge (tgt := 52) dX2_step_8 (by decide) (fun h8 => ?s52_8) (fun h8 => ?s11_8)))))
        case s52_8 => exact main
        case s11_8 => omega
    | succ t ih =>
      intro i hi hsc
      have ei := t_nI (n := i) (by omega)
      obtain ⟨b, hb⟩ : ∃ b, T[i]? = some b := ⟨T[i], List.getElem?_eq_getElem (by omega)⟩
      have hb256 := h2 b (List.mem_of_getElem? hb)
      have eb := t_nI (n := b) (by omega)
      have hgb := h3.at hb
      have hbl : blankB b = true := by
        by_cases q : blankB b = true
        · exact q
        · have := scan_no (P := blankB) (T := T) (p := i) (fun c hc => by rw [hb] at hc; cases hc; simpa using q)
          omega
      have hbl2 : b = 32 ∨ b = 10 := by simpa [blankB] using hbl
      have hnext := ih (i + 1) (by omega) (by rw [← hsc]; exact (scan_yes hb hbl).symm)
      rw [← nI_1] at hnext
      refine g_aload0 dX2_step_0 (g_get fl_X2_26 0 rfl rfl dX2_step_1 (g_aload0 dX2_step_4 (g_get fl_X2_22 0 rfl rfl dX2_step_5 (g_icmp_ge (tgt := 52) dX2_step_8 (by decide) (fun h8 => ?s52_9) (fun h8 => g_aload0 dX2_step_11 (g_get fl_X2_9 0 rfl rfl dX2_step_12 (g_aload0 dX2_step_15 (g_get fl_X2_26 0 rfl rfl dX2_step_16 (g_iaload 1 rfl dX2_step_19 ?b19_9 (g_bipush kb_32 dX2_step_20 (g_icmp_eq (tgt := 39) dX2_step_22 (by decide) (fun h22 => g_aload0 dX2_step_39 (g_dup dX2_step_40 rfl (g_get fl_X2_26 0 rfl rfl dX2_step_41 (g_iconst ki_1 dX2_step_44 (g_iadd dX2_step_45 (g_put fl_X2_26 fp_2_3 0 rfl rfl rfl (Nat.le_of_ble_eq_true rfl) dX2_step_46 (g_goto (tgt := 0) dX2_step_49 (by decide) (?s0_9)))))))) (fun h22 => g_aload0 dX2_step_25 (g_get fl_X2_9 0 rfl rfl dX2_step_26 (g_aload0 dX2_step_29 (g_get fl_X2_26 0 rfl rfl dX2_step_30 (g_iaload 1 rfl dX2_step_33 ?b33_9 (g_bipush kb_10 dX2_step_34 (g_icmp_ne (tgt := 52) dX2_step_36 (by decide) (fun h36 => ?s52_9') (fun h36 => g_aload0 dX2_step_39 (g_dup dX2_step_40 rfl (g_get fl_X2_26 0 rfl rfl dX2_step_41 (g_iconst ki_1 dX2_step_44 (g_iadd dX2_step_45 (g_put fl_X2_26 fp_2_3 0 rfl rfl rfl (Nat.le_of_ble_eq_true rfl) dX2_step_46 (g_goto (tgt := 0) dX2_step_49 (by decide) (?s0_9'))))))))))))))))))))))))))
      case s52_9 => omega
      case b19_9 => omega
      case s0_9 => exact hnext
      case b33_9 => omega
      case s52_9' => rw [ei, Int.toNat_natCast, hgb, eb] at h22 h36; omega
      case s0_9' => exact hnext
  exact loop (s - p3) p3 (by omega) hg
theorem c_step (hE : g_E E adK adV ta) {P : PS} {w : va_W} (hw : Rdr E a k T P w) : g_Cv E mX2_step (d + 7) [.ref (a k)] w (fun w' => Rdr E a k T (lexP T P.2.2.1) w') := by
  obtain ⟨tp, nu, rfl, hT, hp1, hp2, hp3, -⟩ := hw
  exact c_step0 hE hT hp3 _ _ _
end S34
