theorem tgF_crS {s : Nat} : ∀ (l acc : List Cr), crS acc → (∀ c ∈ l, c.2.1 ≤ 1) → crS (l.foldl (tgF s) acc)
  | [], acc, h, _ => h
  | c :: l, acc, h, ho => by
    rw [List.foldl_cons]
    refine tgF_crS l _ ?_ (fun x hx => ho x (List.mem_cons_of_mem _ hx))
    unfold tgF
    split
    · have := bitN_le (c.2.2.2.2 &&& (63 ^^^ s))
      have h1 := ho c List.mem_cons_self
      exact layL_crS h (by unfold tgC; dsimp only; omega)
    · exact h
/-- the plait comes from an order of the same dogs -/
def PLI (D : Dg) (O0 : List Nat) (L : List Cr) : Prop := rpl O0 L ∧ ordE O0 L = D.2.2.2.2 ∧ ∀ c ∈ L, c.2.1 ≤ 1
theorem PLI.perm {D : Dg} {O0 : List Nat} {L : List Cr} (h : PLI D O0 L) : List.Perm O0 D.2.2.2.2 := by
  have := ordE_perm L O0
  rw [h.2.1] at this
  exact this.symm
theorem PLI.ord {D : Dg} {O0 : List Nat} {L : List Cr} (h : PLI D O0 L) (hD : dgOK D) (k : Nat) : (ordE O0 (L.take k)).Nodup ∧ (∀ x ∈ ordE O0 (L.take k), x < D.1.length) ∧ (ordE O0 (L.take k)).length = D.1.length := by
  obtain ⟨hn, l1, l2, l3, l4, b1, b2, b3, b4, b5, hnd⟩ := hD
  have hp := (ordE_perm (L.take k) O0).trans h.perm
  exact ⟨hp.nodup_iff.mpr hnd, fun x hx => b5 x (hp.mem_iff.mp hx), by rw [hp.length_eq]; exact l4⟩
section S87
variable {E : GE} {d : Nat} {b : Nat → Nat} {v : Nat → Int32} {t : Int64} {f : Nat → Nat → Int32} {D : Dg} {L Lt : List Cr} {O0 : List Nat}
set_option maxRecDepth 20000 in
set_option maxHeartbeats 4000000 in
theorem c_X8_tangle (hN : g_N E) (hD : dgOK D) (hM : MD v f D) (hL : ML v f L) (hI : PLI D O0 L) {s : Nat} (hs : s < 64) : g_Cv E mX8_tangle (d + 3) [.ref (b 0), .int (nI s)] (mW E b v t f) (fun w => ∃ v' f', w = mW E b v' t f' ∧ agV [34] v v' ∧ agF [11, 31, 32, 33] f f' ∧ Lst D.2.2.2.2 (f' 11) ∧ MLf v' f' (tgL s L)) := by
  obtain ⟨hR, hE, ho⟩ := id hI
  have hn := hD.1
  obtain ⟨L1, L2, L3, L4⟩ := id hL
  have e15 : (v 15).toInt = L.length := by rw [L2, t_nI (by omega)]
  refine g_enterV hN.1 (by decide) [some (.ref (b 0)), some (.int (nI s)), none, none, none, none, none, none] rfl (Nat.le_of_ble_eq_true rfl) (fun A Q hQ => ?_)
  have tcm1 := tc_m1; have tc0 := tc_0; have tc1 := tc_1; have tc10 := tc_10
  have ph2 : ∀ u k v2 f2, k + u = L.length → agV [34] v v2 → agF [11, 31, 32, 33] f f2 → Lst (ordE O0 (L.take k)) (f2 11) → MLf v2 f2 ((L.take k).foldl (tgF s) []) → ∀ l3 l4 l5 l6 l7, G E mX8_tangle (d + 3) 0 0 A Q 0 0 34 [some (.ref (b 0)), some (.int (nI s)), some (.int (nI k)), l3, l4, l5, l6, l7] [] (mW E b v2 t f2) := by
    intro u
    induction u with
    | zero =>
      intro k v2 f2 hk hagv hagf hO hLf l3 l4 l5 l6 l7
      have ek := t_nI (n := k) (by omega)
      have z15 : (v2 15).toInt = L.length := by rw [hagv.at 15 rfl]; exact e15
      have htk : L.take k = L := List.take_of_length_le (by omega)
      rw [htk] at hO hLf
      rw [hE] at hO
      refine g_iload2 dX8_tangle_34 (g_aload0 dX8_tangle_35 (g_mget fl_X8_116 mg_15 dX8_tangle_36 (g_icmp_ge (tgt := 152) dX8_tangle_39 (by decide) (fun h39 => g_vret rfl dX8_tangle_152 (Nat.le_of_ble_eq_true rfl) (Nat.le_of_ble_eq_true rfl) ?q152) (fun h39 => ?s42))))
      case s42 => omega
      case q152 => exact hQ _ ⟨v2, f2, rfl, hagv, hagf, hO, hLf⟩
    | succ u ih =>
      intro k v2 f2 hk hagv hagf hO hLf l3 l4 l5 l6 l7
      have ek := t_nI (n := k) (by omega)
      have z15 : (v2 15).toInt = L.length := by rw [hagv.at 15 rfl]; exact e15
      obtain ⟨c, hc⟩ : ∃ c, L[k]? = some c := ⟨L[k], List.getElem?_eq_getElem (by omega)⟩
      obtain ⟨r1, r2, r3⟩ := rpl_get hR hc
      obtain ⟨o1, o2, o3⟩ := hI.ord hD k
      have hol : (ordE O0 (L.take k)).length = O0.length := ordE_len _ _
      have hts : (L.take (k + 1)).foldl (tgF s) [] = tgF s ((L.take k).foldl (tgF s) []) c := by
        rw [List.take_succ, hc, List.foldl_append]; rfl
      generalize ordE O0 (L.take k) = O at *
      have hcm := List.mem_of_getElem? hc
      have ho1 := ho c hcm
      have ep := t_nI (n := c.1) (by omega)
      have ep1 := t_nI (n := c.1 + 1) (by omega)
      have ga := getD_at (l := O) (i := c.1) (by omega)
      have gb := getD_at (l := O) (i := c.1 + 1) (by omega)
      have la := o2 _ (List.mem_of_getElem? ga)
      have lb := o2 _ (List.mem_of_getElem? gb)
      have ca : c.2.2.1 = O.getD c.1 0 := by rw [r1]; rfl
      have cb : c.2.2.2.1 = O.getD (c.1 + 1) 0 := by rw [r1]; rfl
      have cbe : c.2.2.2.2 = bset (O.take c.1) := by rw [r1]; rfl
      have p1 : f2 13 k = nI c.1 := by rw [hagf.at 13 rfl]; exact L3.at (by rw [List.getElem?_map, hc]; rfl)
      have p2 : f2 14 k = nI c.2.1 := by rw [hagf.at 14 rfl]; exact L4.at (by rw [List.getElem?_map, hc]; rfl)
      have h6 : ∀ x ∈ O, x < 6 := fun x hx => by have := o2 x hx; omega
      have fin : ∀ v3 f3, agV [34] v v3 → agF [11, 31, 32, 33] f f3 → Lst O (f3 11) → MLf v3 f3 ((L.take (k + 1)).foldl (tgF s) []) → ∀ l4 l5 l6 l7, G E mX8_tangle (d + 3) 0 0 A Q 0 0 141 [some (.ref (b 0)), some (.int (nI s)), some (.int (nI k)), some (.int (nI c.1)), l4, l5, l6, l7] [] (mW E b v3 t f3) := by
        intro v3 f3 g1 g2 g3 g4 l4 l5 l6 l7
        refine g_aload0 dX8_tangle_141 (g_iload3 dX8_tangle_142 (?c143_2))
        refine g_V1v dX8_tangle_143 mv_X8_270 0 rfl rfl rfl (Nat.le_of_ble_eq_true rfl) (Nat.le_of_ble_eq_true rfl) (c_X8_swap (d := d + 1) hN (by omega)) (fun w1 hq => ?_)
        subst hq
        refine g_iinc2 ki_1 dX8_tangle_146 rfl rfl (g_goto (tgt := 34) dX8_tangle_149 (by decide) (?s34_3))
        rw [nI_1]
        refine ih (k + 1) v3 _ (by omega) g1 (g2.up 11 _ rfl) ?_ (g4.ag (S1 := []) (S2 := [11]) agV.rf (agF.rf.up 11 _ rfl) rfl rfl rfl rfl) _ _ _ _ _
        rw [updA_s, r3]
        exact g3.swG (by omega)
      have inner : ∀ w q, q + w = c.1 → G E mX8_tangle (d + 3) 0 0 A Q 0 0 73 [some (.ref (b 0)), some (.int (nI s)), some (.int (nI k)), some (.int (nI c.1)), some (.int (nI (O.getD c.1 0))), some (.int (nI (O.getD (c.1 + 1) 0))), some (.int (nI (amN s O q))), some (.int (nI q))] [] (mW E b v2 t f2) := by
        intro w
        induction w with
        | zero =>
          intro q hq
          have eq := t_nI (n := q) (by omega)
          have hqc : q = c.1 := by omega
          have sa := sbit s hs (O.getD c.1 0) (by omega)
          have sb := sbit s hs (O.getD (c.1 + 1) 0) (by omega)
          refine g_iload7 dX8_tangle_73 (g_iload3 dX8_tangle_75 (g_icmp_ge (tgt := 103) dX8_tangle_76 (by decide) (fun h76 => g_iload1 dX8_tangle_103 (g_iload4 dX8_tangle_104 (g_ishr dX8_tangle_106 (g_iconst ki_1 dX8_tangle_107 (g_iand dX8_tangle_108 (g_if_ne (tgt := 141) dX8_tangle_109 (by decide) (fun h109 => ?s141_4) (fun h109 => g_iload1 dX8_tangle_112 (g_iload5 dX8_tangle_113 (g_ishr dX8_tangle_115 (g_iconst ki_1 dX8_tangle_116 (g_iand dX8_tangle_117 (g_if_ne (tgt := 141) dX8_tangle_118 (by decide) (fun h118 => ?s141_4') (fun h118 => g_aload0 dX8_tangle_121 (g_iload6 dX8_tangle_122 (g_aload0 dX8_tangle_124 (g_mget fl_X8_41 mg_14 dX8_tangle_125 (g_iload2 dX8_tangle_128 (g_mia ma_14 dX8_tangle_129 ?b129_4 (g_bipush kb_10 dX8_tangle_130 (g_iload4 dX8_tangle_132 (g_imul dX8_tangle_134 (g_iload5 dX8_tangle_135 (g_iadd dX8_tangle_137 (?c138_4)))))))))))))))))))))))) (fun h76 => ?s79_4)))
          case s79_4 => omega
          case b129_4 => omega
          all_goals rw [sa] at h109
          case s141_4 =>
            have htb : s.testBit (O.getD c.1 0) = true := by
              cases hh : s.testBit (O.getD c.1 0) with
              | true => rfl
              | false => rw [hh] at h109; exact absurd rfl h109
            refine fin v2 f2 hagv hagf hO ?_ _ _ _ _
            rw [hts]
            unfold tgF woB
            rw [ca, htb]
            exact hLf
          all_goals rw [sb] at h118
          case s141_4' =>
            have htb : s.testBit (O.getD (c.1 + 1) 0) = true := by
              cases hh : s.testBit (O.getD (c.1 + 1) 0) with
              | true => rfl
              | false => rw [hh] at h118; exact absurd rfl h118
            refine fin v2 f2 hagv hagf hO ?_ _ _ _ _
            rw [hts]
            unfold tgF woB
            rw [cb, htb, Bool.not_true, Bool.and_false]
            exact hLf
          case c138_4 =>
            have hta : s.testBit (O.getD c.1 0) = false := by
              cases hh : s.testBit (O.getD c.1 0) with
              | false => rfl
              | true => rw [hh] at h109; exact absurd h109 (by decide)
            have htb : s.testBit (O.getD (c.1 + 1) 0) = false := by
              cases hh : s.testBit (O.getD (c.1 + 1) 0) with
              | false => rfl
              | true => rw [hh] at h118; exact absurd h118 (by decide)
            have hof : (10 : Int32) * nI (O.getD c.1 0) + nI (O.getD (c.1 + 1) 0) = nI (ofN (tgC s c)) := by
              have : ofN (tgC s c) = 10 * O.getD c.1 0 + O.getD (c.1 + 1) 0 := by unfold ofN tgC; dsimp only; rw [ca, cb]
              rw [this, ← nI_add, ← pk_mul]; rfl
            have ham : amN s O q = (tgC s c).1 := by unfold amN tgC; dsimp only; rw [cbe, hqc]
            have hlen := tgF_len s (L.take k) []
            rw [List.length_take, List.length_nil] at hlen
            rw [ek, Int.toNat_natCast, p2, hof, ham]
            have hcr := tgF_crS (s := s) (L.take k) [] (fun x hx => by cases hx) (fun x hx => ho x (List.mem_of_mem_take hx))
            have hb6 := bitN_le (c.2.2.2.2 &&& (63 ^^^ s))
            refine g_V3v dX8_tangle_138 mv_X8_277 0 rfl rfl rfl (Nat.le_of_ble_eq_true rfl) (Nat.le_of_ble_eq_true rfl) (c_X8_comes (d := d) (c := tgC s c) hN hLf hcr (by omega) (by unfold tgC; dsimp only; omega)) (fun w1 hq => ?_)
            obtain ⟨v3, f3, rfl, g1, g2, g3⟩ := hq
            refine fin v3 f3 (hagv.tr g1) (hagf.tr (g2.wk rfl)) (by rw [g2.at 11 rfl]; exact hO) ?_ _ _ _ _
            rw [hts]
            unfold tgF woB
            rw [ca, cb, hta, htb]
            exact g3
        | succ w ihw =>
          intro q hq
          have eq := t_nI (n := q) (by omega)
          obtain ⟨x, hx⟩ : ∃ x, O[q]? = some x := ⟨O[q], List.getElem?_eq_getElem (by omega)⟩
          have hx6 := h6 x (List.mem_of_getElem? hx)
          have sx := sbit s hs x hx6
          have hO' := hO.at hx
          refine g_iload7 dX8_tangle_73 (g_iload3 dX8_tangle_75 (g_icmp_ge (tgt := 103) dX8_tangle_76 (by decide) (fun h76 => ?s103_5) (fun h76 => g_iload6 dX8_tangle_79 (g_iconst ki_1 dX8_tangle_81 (g_iload1 dX8_tangle_82 (g_aload0 dX8_tangle_83 (g_mget fl_X8_35 mg_11 dX8_tangle_84 (g_iload7 dX8_tangle_87 (g_mia ma_11 dX8_tangle_89 ?b89_5 (g_ishr dX8_tangle_90 (g_iconst ki_1 dX8_tangle_91 (g_iand dX8_tangle_92 (g_isub dX8_tangle_93 (g_iadd dX8_tangle_94 (g_istore6 dX8_tangle_95 rfl rfl (g_iinc7 ki_1 dX8_tangle_97 rfl rfl (g_goto (tgt := 73) dX8_tangle_100 (by decide) (?s73_5))))))))))))))))))
          case s103_5 => omega
          case b89_5 => omega
          case s73_5 =>
            rw [eq, Int.toNat_natCast, hO', sx, nI_1]
            have h1 := ihw (q + 1) (by omega)
            rw [amN_s hs o1 h6 hx] at h1
            have e : nI (amN s O q) + (1 - nI (if s.testBit x = true then 1 else 0)) = nI (amN s O q + if s.testBit x = true then 0 else 1) := by
              cases s.testBit x with
              | true => simp only [if_true]; rw [show (1 : Int32) - nI 1 = nI 0 from rfl, nI_add]
              | false => simp only [Bool.false_eq_true, if_false]; rw [show (1 : Int32) - nI 0 = nI 1 from rfl, nI_add]
            rw [e]
            exact h1
      have h0 := inner c.1 0 (by omega)
      rw [amN_0] at h0
      refine g_iload2 dX8_tangle_34 (g_aload0 dX8_tangle_35 (g_mget fl_X8_116 mg_15 dX8_tangle_36 (g_icmp_ge (tgt := 152) dX8_tangle_39 (by decide) (fun h39 => g_vret rfl dX8_tangle_152 (Nat.le_of_ble_eq_true rfl) (Nat.le_of_ble_eq_true rfl) ?q152_6) (fun h39 => g_aload0 dX8_tangle_42 (g_mget fl_X8_38 mg_13 dX8_tangle_43 (g_iload2 dX8_tangle_46 (g_mia ma_13 dX8_tangle_47 ?b47_6 (g_istore3 dX8_tangle_48 rfl rfl (g_aload0 dX8_tangle_49 (g_mget fl_X8_35 mg_11 dX8_tangle_50 (g_iload3 dX8_tangle_53 (g_mia ma_11 dX8_tangle_54 ?b54_6 (g_istore4 dX8_tangle_55 rfl rfl (g_aload0 dX8_tangle_57 (g_mget fl_X8_35 mg_11 dX8_tangle_58 (g_iload3 dX8_tangle_61 (g_iconst ki_1 dX8_tangle_62 (g_iadd dX8_tangle_63 (g_mia ma_11 dX8_tangle_64 ?b64_6 (g_istore5 dX8_tangle_65 rfl rfl (g_iconst ki_0 dX8_tangle_67 (g_istore6 dX8_tangle_68 rfl rfl (g_iconst ki_0 dX8_tangle_70 (g_istore7 dX8_tangle_71 rfl rfl (?s73_6)))))))))))))))))))))))))
      case b47_6 => omega
      case b54_6 => rw [ek, Int.toNat_natCast, p1]; omega
      case b64_6 => rw [ek, Int.toNat_natCast, p1, nI_1]; omega
      case q152_6 => omega
      case s73_6 =>
        rw [ek, Int.toNat_natCast, p1, nI_1, ep, ep1, Int.toNat_natCast, Int.toNat_natCast, hO.at ga, hO.at gb]
        exact h0
  have ph1 : ∀ j f2, j ≤ L.length → agF [11, 31, 32, 33] f f2 → Lst (ordE O0 (L.take j)) (f2 11) → G E mX8_tangle (d + 3) 0 0 A Q 0 0 7 [some (.ref (b 0)), some (.int (nI s)), some (.int (nI j - 1)), none, none, none, none, none] [] (mW E b v t f2) := by
    intro j
    induction j with
    | zero =>
      intro f2 hj hag hO
      have e1 : (nI 0 - 1).toInt = -1 := by decide
      refine g_iload2 dX8_tangle_7 (g_if_lt (tgt := 27) dX8_tangle_8 (by decide) (fun h8 => g_aload0 dX8_tangle_27 (g_iconst ki_0 dX8_tangle_28 (g_mput fl_X8_274 fp_7_34 ms_34 rfl rfl rfl dX8_tangle_29 (g_iconst ki_0 dX8_tangle_32 (g_istore2 dX8_tangle_33 rfl rfl (?s34_7)))))) (fun h8 => ?s11_7))
      case s11_7 => omega
      case s34_7 =>
        refine ph2 L.length 0 _ f2 (by omega) (agV.rf.up 34 _ rfl) hag hO ⟨Nat.zero_le _, upd_s, ?_, ?_, ?_⟩ _ _ _ _ _
        all_goals exact fun i x hx => by simp at hx
    | succ j ihj =>
      intro f2 hj hag hO
      have e1 : nI (j + 1) - 1 = nI j := nI_pred j
      have e2 := t_nI (n := j) (by omega)
      rw [e1]
      obtain ⟨c, hc⟩ : ∃ c, L[j]? = some c := ⟨L[j], List.getElem?_eq_getElem (by omega)⟩
      obtain ⟨r1, r2, r3⟩ := rpl_get hR hc
      obtain ⟨o1, o2, o3⟩ := hI.ord hD (j + 1)
      have hol : (ordE O0 (L.take (j + 1))).length = O0.length := ordE_len _ _
      have p1 : f2 13 j = nI c.1 := by rw [hag.at 13 rfl]; exact L3.at (by rw [List.getElem?_map, hc]; rfl)
      refine g_iload2 dX8_tangle_7 (g_if_lt (tgt := 27) dX8_tangle_8 (by decide) (fun h8 => ?s27_8) (fun h8 => g_aload0 dX8_tangle_11 (g_aload0 dX8_tangle_12 (g_mget fl_X8_38 mg_13 dX8_tangle_13 (g_iload2 dX8_tangle_16 (g_mia ma_13 dX8_tangle_17 ?b17_8 (?c18_8)))))))
      case s27_8 => omega
      case b17_8 => omega
      case c18_8 =>
        rw [e2, Int.toNat_natCast, p1]
        refine g_V1v dX8_tangle_18 mv_X8_270 0 rfl rfl rfl (Nat.le_of_ble_eq_true rfl) (Nat.le_of_ble_eq_true rfl) (c_X8_swap (d := d + 1) hN (by omega)) (fun w1 hq => ?_)
        subst hq
        refine g_iinc2 ki_m1 dX8_tangle_21 rfl rfl (g_goto (tgt := 7) dX8_tangle_24 (by decide) (?s7_9))
        rw [show nI j + -1 = nI j - 1 by rw [Int32.sub_eq_add_neg]]
        refine ihj _ (by omega) (hag.up 11 _ rfl) ?_
        rw [updA_s]
        have := hO.swG (p := c.1) (by omega)
        rw [r3, swapL_inv] at this
        exact this
  refine g_aload0 dX8_tangle_0 (g_mget fl_X8_116 mg_15 dX8_tangle_1 (g_iconst ki_1 dX8_tangle_4 (g_isub dX8_tangle_5 (g_istore2 dX8_tangle_6 rfl rfl (?s7_10)))))
  rw [L2]
  refine ph1 L.length f (Nat.le_refl _) agF.rf ?_
  rw [List.take_of_length_le (Nat.le_refl _), hE]
  exact hM.2.2.2.2.2
end S87
