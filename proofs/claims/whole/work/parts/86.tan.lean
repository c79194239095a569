/-! the model: what is left -/
def ofN (c : Cr) : Nat := 10 * c.2.2.1 + c.2.2.2.1
def MLf (v : Nat → Int32) (f : Nat → Nat → Int32) (Lt : List Cr) : Prop := Lt.length ≤ 40 ∧ v 34 = nI Lt.length ∧ Lst (Lt.map (fun c => c.1)) (f 31) ∧ Lst (Lt.map (fun c => c.2.1)) (f 32) ∧ Lst (Lt.map ofN) (f 33)
def crS (Lt : List Cr) : Prop := ∀ c ∈ Lt, c.1 < 1000 ∧ c.2.1 < 1000
theorem MLf.ag {S1 S2 : List Nat} {v v' : Nat → Int32} {f f' : Nat → Nat → Int32} {L : List Cr} (h : MLf v f L) (h1 : agV S1 v v') (h2 : agF S2 f f') (q1 : S1.contains 34 = false) (q2 : S2.contains 31 = false) (q3 : S2.contains 32 = false) (q4 : S2.contains 33 = false) : MLf v' f' L := by
  unfold MLf
  rw [h1.at 34 q1, h2.at 31 q2, h2.at 32 q3, h2.at 33 q4]
  exact h
theorem eraseIdx_mapN (g : Cr → Nat) : ∀ (l : List Cr) (i : Nat), (l.map g).eraseIdx i = (l.eraseIdx i).map g
  | [], i => by simp
  | c :: l, 0 => by simp
  | c :: l, i + 1 => by
    rw [List.map_cons, List.eraseIdx_cons_succ, List.eraseIdx_cons_succ, List.map_cons, eraseIdx_mapN g l i]
theorem Lst.shf {l : List Nat} {F : Nat → Int32} (h : Lst l F) {k n : Nat} (hn : n + 1 = l.length) (hk : k < l.length) : Lst (l.eraseIdx k) (shf F k n) := by
  intro m x hm
  have hlen : (l.eraseIdx k).length = n := by rw [List.length_eraseIdx, if_pos hk]; omega
  have hmn := (List.getElem?_eq_some_iff.mp hm).1
  rw [List.getElem?_eraseIdx] at hm
  by_cases h1 : m < k
  · rw [if_pos h1] at hm
    show (if k ≤ m ∧ m < n then F (m + 1) else F m) = nI x
    rw [if_neg (by omega)]
    exact h m x hm
  · rw [if_neg h1] at hm
    show (if k ≤ m ∧ m < n then F (m + 1) else F m) = nI x
    rw [if_pos (by omega)]
    exact h (m + 1) x hm
theorem layL_crS {L : List Cr} {c : Cr} (h : crS L) (hc : c.1 < 1000 ∧ c.2.1 < 1000) : crS (layL L c) := fun x hx => by
  rcases layL_sub L c x hx with q | q
  · exact h x q
  · rw [q]; exact hc
theorem sbit : ∀ s, s < 64 → ∀ x, x < 6 → ((nI s >>> (nI x &&& 31)) &&& 1) = nI (if s.testBit x = true then 1 else 0) := by decide +kernel
section S86
variable {E : GE} {d : Nat} {b : Nat → Nat} {v : Nat → Int32} {t : Int64} {f : Nat → Nat → Int32} {D : Dg} {L Lt : List Cr} {O0 : List Nat}
set_option maxRecDepth 20000 in
set_option maxHeartbeats 4000000 in
theorem c_X8_comes (hN : g_N E) (h : MLf v f Lt) (hS : crS Lt) (hl : Lt.length < 40) {c : Cr} (hc : c.1 < 1000 ∧ c.2.1 < 1000) : g_Cv E mX8_comes (d + 2) [.ref (b 0), .int (nI c.1), .int (nI c.2.1), .int (nI (ofN c))] (mW E b v t f) (fun w => ∃ v' f', w = mW E b v' t f' ∧ agV [34] v v' ∧ agF [31, 32, 33] f f' ∧ MLf v' f' (layL Lt c)) := by
  obtain ⟨L1, L2, L3, L4, L5⟩ := id h
  have e34 : (v 34).toInt = Lt.length := by rw [L2, t_nI (by omega)]
  have ec := t_nI (n := c.1) (by omega)
  have eo := t_nI (n := c.2.1) (by omega)
  refine g_enterV hN.1 (by decide) [some (.ref (b 0)), some (.int (nI c.1)), some (.int (nI c.2.1)), some (.int (nI (ofN c))), none, none] rfl (Nat.le_of_ble_eq_true rfl) (fun A Q hQ => ?_)
  have tcm1 := tc_m1; have tc1 := tc_1
  have app : ∀ l4 l5, layL Lt c = Lt ++ [c] → G E mX8_comes (d + 2) 0 0 A Q 0 0 141 [some (.ref (b 0)), some (.int (nI c.1)), some (.int (nI c.2.1)), some (.int (nI (ofN c))), l4, l5] [] (mW E b v t f) := by
    intro l4 l5 he
    refine g_aload0 dX8_comes_141 (g_mget fl_X8_44 mg_31 dX8_comes_142 (g_aload0 dX8_comes_145 (g_mget fl_X8_274 mg_34 dX8_comes_146 (g_iload1 dX8_comes_149 (g_mis ma_31 mas_31 dX8_comes_150 ?b150 (g_aload0 dX8_comes_151 (g_mget fl_X8_47 mg_32 dX8_comes_152 (g_aload0 dX8_comes_155 (g_mget fl_X8_274 mg_34 dX8_comes_156 (g_iload2 dX8_comes_159 (g_mis ma_32 mas_32 dX8_comes_160 ?b160 (g_aload0 dX8_comes_161 (g_mget fl_X8_50 mg_33 dX8_comes_162 (g_aload0 dX8_comes_165 (g_mget fl_X8_274 mg_34 dX8_comes_166 (g_iload3 dX8_comes_169 (g_mis ma_33 mas_33 dX8_comes_170 ?b170 (g_aload0 dX8_comes_171 (g_dup dX8_comes_172 rfl (g_mget fl_X8_274 mg_34 dX8_comes_173 (g_iconst ki_1 dX8_comes_176 (g_iadd dX8_comes_177 (g_mput fl_X8_274 fp_7_34 ms_34 rfl rfl rfl dX8_comes_178 (g_vret rfl dX8_comes_181 (Nat.le_of_ble_eq_true rfl) (Nat.le_of_ble_eq_true rfl) ?q181))))))))))))))))))))))))
    case b150 => omega
    case b160 => omega
    case b170 => omega
    case q181 =>
      refine hQ _ ⟨_, _, rfl, agV.rf.up 34 _ rfl, ((agF.rf.up 31 _ rfl).up 32 _ rfl).up 33 _ rfl, ?_⟩
      rw [he]
      refine ⟨by rw [List.length_append]; show Lt.length + 1 ≤ 40; omega, by rw [upd_s, L2, nI_1, List.length_append]; rfl, ?_, ?_, ?_⟩
      · rw [updA_o (by decide), updA_o (by decide), updA_s, e34, Int.toNat_natCast, List.map_append]
        have := L3.push c.1
        rw [List.length_map] at this
        exact this
      · rw [updA_o (by decide), updA_s, updA_o (by decide), e34, Int.toNat_natCast, List.map_append]
        have := L4.push c.2.1
        rw [List.length_map] at this
        exact this
      · rw [updA_s, updA_o (by decide), updA_o (by decide), e34, Int.toNat_natCast, List.map_append]
        have := L5.push (ofN c)
        rw [List.length_map] at this
        exact this
  have rem : ∀ k u i f2, k < Lt.length → i + u + 1 = Lt.length → k ≤ i → layL Lt c = Lt.eraseIdx k → agF [31, 32, 33] f f2 → f2 31 = shf (f 31) k i → f2 32 = shf (f 32) k i → f2 33 = shf (f 33) k i → ∀ l4 : Int32, G E mX8_comes (d + 2) 0 0 A Q 0 0 67 [some (.ref (b 0)), some (.int (nI c.1)), some (.int (nI c.2.1)), some (.int (nI (ofN c))), some (.int l4), some (.int (nI (i + 1)))] [] (mW E b v t f2) := by
    intro k u
    induction u with
    | zero =>
      intro i f2 hk hi hki he hag k1 k2 k3 l4
      have ei := t_nI (n := i + 1) (by omega)
      refine g_iload5 dX8_comes_67 (g_aload0 dX8_comes_69 (g_mget fl_X8_274 mg_34 dX8_comes_70 (g_icmp_ge (tgt := 130) dX8_comes_73 (by decide) (fun h73 => g_aload0 dX8_comes_130 (g_dup dX8_comes_131 rfl (g_mget fl_X8_274 mg_34 dX8_comes_132 (g_iconst ki_1 dX8_comes_135 (g_isub dX8_comes_136 (g_mput fl_X8_274 fp_7_34 ms_34 rfl rfl rfl dX8_comes_137 (g_vret rfl dX8_comes_140 (Nat.le_of_ble_eq_true rfl) (Nat.le_of_ble_eq_true rfl) ?q140_2))))))) (fun h73 => ?s76_2))))
      case s76_2 => omega
      case q140_2 =>
        refine hQ _ ⟨_, f2, rfl, agV.rf.up 34 _ rfl, hag, ?_⟩
        rw [he]
        have hlen : (Lt.eraseIdx k).length = i := by rw [List.length_eraseIdx, if_pos hk]; omega
        refine ⟨by omega, by rw [upd_s, L2, hlen, show Lt.length = i + 1 by omega, nI_pred], ?_, ?_, ?_⟩
        · rw [k1, ← eraseIdx_mapN]; exact L3.shf (by rw [List.length_map]; omega) (by rw [List.length_map]; omega)
        · rw [k2, ← eraseIdx_mapN]; exact L4.shf (by rw [List.length_map]; omega) (by rw [List.length_map]; omega)
        · rw [k3, ← eraseIdx_mapN]; exact L5.shf (by rw [List.length_map]; omega) (by rw [List.length_map]; omega)
    | succ u ih =>
      intro i f2 hk hi hki he hag k1 k2 k3 l4
      have ei := t_nI (n := i + 1) (by omega)
      have ei0 := t_nI (n := i) (by omega)
      have e1 : nI (i + 1) - 1 = nI i := nI_pred i
      refine g_iload5 dX8_comes_67 (g_aload0 dX8_comes_69 (g_mget fl_X8_274 mg_34 dX8_comes_70 (g_icmp_ge (tgt := 130) dX8_comes_73 (by decide) (fun h73 => ?s130_3) (fun h73 => g_aload0 dX8_comes_76 (g_mget fl_X8_44 mg_31 dX8_comes_77 (g_iload5 dX8_comes_80 (g_iconst ki_1 dX8_comes_82 (g_isub dX8_comes_83 (g_aload0 dX8_comes_84 (g_mget fl_X8_44 mg_31 dX8_comes_85 (g_iload5 dX8_comes_88 (g_mia ma_31 dX8_comes_90 ?b90_3 (g_mis ma_31 mas_31 dX8_comes_91 ?b91_3 (g_aload0 dX8_comes_92 (g_mget fl_X8_47 mg_32 dX8_comes_93 (g_iload5 dX8_comes_96 (g_iconst ki_1 dX8_comes_98 (g_isub dX8_comes_99 (g_aload0 dX8_comes_100 (g_mget fl_X8_47 mg_32 dX8_comes_101 (g_iload5 dX8_comes_104 (g_mia ma_32 dX8_comes_106 ?b106_3 (g_mis ma_32 mas_32 dX8_comes_107 ?b107_3 (g_aload0 dX8_comes_108 (g_mget fl_X8_50 mg_33 dX8_comes_109 (g_iload5 dX8_comes_112 (g_iconst ki_1 dX8_comes_114 (g_isub dX8_comes_115 (g_aload0 dX8_comes_116 (g_mget fl_X8_50 mg_33 dX8_comes_117 (g_iload5 dX8_comes_120 (g_mia ma_33 dX8_comes_122 ?b122_3 (g_mis ma_33 mas_33 dX8_comes_123 ?b123_3 (g_iinc5 ki_1 dX8_comes_124 rfl rfl (g_goto (tgt := 67) dX8_comes_127 (by decide) (?s67_3))))))))))))))))))))))))))))))))))))
      case s130_3 => omega
      case s67_3 =>
        rw [e1, ei, ei0, Int.toNat_natCast, show ((i + 1 : Nat) : Int).toNat = i + 1 by omega, nI_1]
        refine ih (i + 1) _ hk (by omega) (by omega) he (((hag.up 31 _ rfl).up 32 _ rfl).up 33 _ rfl) ?_ ?_ ?_ l4
        · rw [updA_o (by decide), updA_o (by decide), updA_s, k1, shf_s _ hki]
        · rw [updA_o (by decide), updA_s, updA_o (by decide), k2, shf_s _ hki]
        · rw [updA_s, updA_o (by decide), updA_o (by decide), k3, shf_s _ hki]
      all_goals try rw [e1]
      all_goals omega
  have at34 : ∀ l5, G E mX8_comes (d + 2) 0 0 A Q 0 0 34 [some (.ref (b 0)), some (.int (nI c.1)), some (.int (nI c.2.1)), some (.int (nI (ofN c))), some (.int (lnI (lnear Lt c.1 Lt.length))), l5] [] (mW E b v t f) := by
    intro l5
    cases hln : lnear Lt c.1 Lt.length with
    | none =>
      have e1 : (lnI none).toInt = -1 := by decide
      have he : layL Lt c = Lt ++ [c] := by unfold layL; rw [hln]
      refine g_iload4 dX8_comes_34 (g_if_lt (tgt := 141) dX8_comes_36 (by decide) (fun h36 => ?s141_4) (fun h36 => ?s39_4))
      case s39_4 => omega
      case s141_4 => exact app _ _ he
    | some j =>
      have hj := lnear_lt _ _ hln
      obtain ⟨c', hc'⟩ : ∃ c', Lt[j]? = some c' := ⟨Lt[j], List.getElem?_eq_getElem hj⟩
      have e1 : (lnI (some j)).toInt = j := t_nI (by omega)
      have he : layL Lt c = if c'.1 = c.1 ∧ c'.2.1 ≠ c.2.1 then Lt.eraseIdx j else Lt ++ [c] := by unfold layL; rw [hln]; simp only [hc']
      have bc := hS c' (List.mem_of_getElem? hc')
      have p1 : f 31 j = nI c'.1 := L3.at (by rw [List.getElem?_map, hc']; rfl)
      have p2 : f 32 j = nI c'.2.1 := L4.at (by rw [List.getElem?_map, hc']; rfl)
      have ec1 := t_nI (n := c'.1) (by omega)
      have ec2 := t_nI (n := c'.2.1) (by omega)
      refine g_iload4 dX8_comes_34 (g_if_lt (tgt := 141) dX8_comes_36 (by decide) (fun h36 => ?s141_5) (fun h36 => g_aload0 dX8_comes_39 (g_mget fl_X8_44 mg_31 dX8_comes_40 (g_iload4 dX8_comes_43 (g_mia ma_31 dX8_comes_45 ?b45_5 (g_iload1 dX8_comes_46 (g_icmp_ne (tgt := 141) dX8_comes_47 (by decide) (fun h47 => ?s141_5') (fun h47 => g_aload0 dX8_comes_50 (g_mget fl_X8_47 mg_32 dX8_comes_51 (g_iload4 dX8_comes_54 (g_mia ma_32 dX8_comes_56 ?b56_5 (g_iload2 dX8_comes_57 (g_icmp_eq (tgt := 141) dX8_comes_58 (by decide) (fun h58 => ?s141_5'') (fun h58 => g_iload4 dX8_comes_61 (g_iconst ki_1 dX8_comes_63 (g_iadd dX8_comes_64 (g_istore5 dX8_comes_65 rfl rfl (?s67_5))))))))))))))))))
      all_goals try rw [e1, Int.toNat_natCast, p1, ec1] at h47
      all_goals try rw [e1, Int.toNat_natCast, p2, ec2] at h58
      case s141_5 => omega
      case s141_5' => exact app _ _ (by rw [he, if_neg (by omega)])
      case s141_5'' => exact app _ _ (by rw [he, if_neg (by omega)])
      case s67_5 =>
        rw [show lnI (some j) + 1 = nI (j + 1) from nI_1 j]
        exact rem j (Lt.length - 1 - j) j f hj (by omega) (Nat.le_refl _) (by rw [he, if_pos (by omega)]) agF.rf (shf_0 _ _).symm (shf_0 _ _).symm (shf_0 _ _).symm _
      all_goals omega
  have loop : ∀ j, j ≤ Lt.length → lnear Lt c.1 Lt.length = lnear Lt c.1 j → ∀ l5, G E mX8_comes (d + 2) 0 0 A Q 0 0 8 [some (.ref (b 0)), some (.int (nI c.1)), some (.int (nI c.2.1)), some (.int (nI (ofN c))), some (.int (nI j - 1)), l5] [] (mW E b v t f) := by
    intro j
    induction j with
    | zero =>
      intro hj he l5
      have e1 : (nI 0 - 1).toInt = -1 := by decide
      have h34 := at34 l5
      rw [he] at h34
      refine g_iload4 dX8_comes_8 (g_if_lt (tgt := 34) dX8_comes_10 (by decide) (fun h10 => ?s34_6) (fun h10 => ?s13_6))
      case s34_6 => exact h34
      case s13_6 => omega
    | succ j ih =>
      intro hj he l5
      have e1 : nI (j + 1) - 1 = nI j := nI_pred j
      have e2 := t_nI (n := j) (by omega)
      rw [e1]
      obtain ⟨c', hc'⟩ : ∃ c', Lt[j]? = some c' := ⟨Lt[j], List.getElem?_eq_getElem (by omega)⟩
      have bc := hS c' (List.mem_of_getElem? hc')
      have p1 : f 31 j = nI c'.1 := L3.at (by rw [List.getElem?_map, hc']; rfl)
      have eoff := t_nI (n := if c'.1 < c.1 then c.1 - c'.1 else c'.1 - c.1) (by split <;> omega)
      refine g_iload4 dX8_comes_8 (g_if_lt (tgt := 34) dX8_comes_10 (by decide) (fun h10 => ?s34_7) (fun h10 => g_aload0 dX8_comes_13 (g_mget fl_X8_44 mg_31 dX8_comes_14 (g_iload4 dX8_comes_17 (g_mia ma_31 dX8_comes_19 ?b19_7 (g_iload1 dX8_comes_20 (r_X8_off hN mv_X8_255 dX8_comes_21 (Nat.le_of_ble_eq_true rfl) (Nat.le_of_ble_eq_true rfl) rfl (g_iconst ki_1 dX8_comes_24 (g_icmp_le (tgt := 34) dX8_comes_25 (by decide) (fun h25 => ?s34_7') (fun h25 => g_iinc4 ki_m1 dX8_comes_28 rfl rfl (g_goto (tgt := 8) dX8_comes_31 (by decide) (?s8_7))))))))))))
      all_goals try rw [e2, Int.toNat_natCast, p1, nI_off (by omega) (by omega), eoff] at h25
      case s34_7 => omega
      case b19_7 => omega
      case s34_7' =>
        have hnr : near c'.1 c.1 = true := decide_eq_true (by split at h25 <;> omega)
        have h34 := at34 l5
        rw [he, lnear, hc'] at h34
        simp only [hnr, if_true, lnI] at h34
        exact h34
      case s8_7 =>
        have hnr : near c'.1 c.1 = false := decide_eq_false (by split at h25 <;> omega)
        rw [show nI j + -1 = nI j - 1 by rw [Int32.sub_eq_add_neg]]
        refine ih (by omega) ?_ l5
        rw [he, lnear, hc']
        simp only [hnr]
        rfl
  refine g_aload0 dX8_comes_0 (g_mget fl_X8_274 mg_34 dX8_comes_1 (g_iconst ki_1 dX8_comes_4 (g_isub dX8_comes_5 (g_istore4 dX8_comes_6 rfl rfl (?s8_8)))))
  rw [L2]
  exact loop Lt.length (Nat.le_refl _) rfl none
end S86
