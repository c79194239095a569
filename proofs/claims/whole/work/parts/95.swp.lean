/-! the model: sheets that tell an order -/
def MSh (f : Nat → Nat → Int32) (i : Nat) (s : Int32 × List Int32) : Prop := i < 4 ∧ s.2.length ≤ 40 ∧ (-1 ≤ s.1.toInt ∧ s.1.toInt ≤ 2) ∧ (s.1.toInt = -1 → f 52 i = 0) ∧ (¬ s.1.toInt = -1 → f 52 i = 1 ∧ f 53 i = s.1 ∧ f 54 i = nI s.2.length ∧ ∀ (j : Nat) (x : Int32), s.2[j]? = some x → f 55 (40 * i + j) = x)
theorem MSh.ag {S : List Nat} {f f' : Nat → Nat → Int32} {i : Nat} {s : Int32 × List Int32} (h : MSh f i s) (h2 : agF S f f') (q : [52, 53, 54, 55].all (fun j => !S.contains j) = true) : MSh f' i s := by
  have q3 : ∀ j ∈ [52, 53, 54, 55], S.contains j = false := fun j hj => by
    have := List.all_eq_true.mp q j hj
    simpa using this
  unfold MSh
  rw [h2.at 52 (q3 52 (by decide)), h2.at 53 (q3 53 (by decide)), h2.at 54 (q3 54 (by decide)), h2.at 55 (q3 55 (by decide))]
  exact h
theorem cover_le : ∀ (n : Nat) (W : List Nat), (∀ x, x < n → x ∈ W) → n ≤ W.length
  | 0, W, _ => Nat.zero_le _
  | n + 1, W, h => by
    have hm := h n (by omega)
    have h1 := cover_le n (W.erase n) (fun x hx => (List.mem_erase_of_ne (by omega)).mpr (h x (by omega)))
    rw [List.length_erase_of_mem hm] at h1
    have := List.length_pos_of_mem hm
    omega
theorem bset_full {n : Nat} {W : List Nat} (hl : ∀ x ∈ W, x < n) : bset W = 2 ^ n - 1 ↔ ∀ x, x < n → x ∈ W := by
  constructor
  · intro h x hx
    have h1 : (bset W).testBit x = decide (x ∈ W) := bset_bit W x
    rw [h, Nat.testBit_two_pow_sub_one, decide_eq_true hx] at h1
    exact of_decide_eq_true h1.symm
  · intro h
    apply Nat.eq_of_testBit_eq
    intro i
    rw [bset_bit, Nat.testBit_two_pow_sub_one]
    by_cases hi : i < n
    · rw [decide_eq_true hi, decide_eq_true (h i hi)]
    · rw [decide_eq_false hi, decide_eq_false (fun q => hi (hl i q))]
theorem dup_at : ∀ (W : List Nat), ¬ W.Nodup → ∃ i j : Nat, i < j ∧ j < W.length ∧ W[i]? = W[j]?
  | [], h => absurd List.nodup_nil h
  | z :: W, h => by
    by_cases hz : z ∈ W
    · obtain ⟨j, hj⟩ := List.getElem?_of_mem hz
      have hjl := (List.getElem?_eq_some_iff.mp hj).1
      exact ⟨0, j + 1, by omega, by rw [List.length_cons]; omega, by rw [List.getElem?_cons_succ, hj]; rfl⟩
    · obtain ⟨i, j, h1, h2, h3⟩ := dup_at W (fun q => h (List.nodup_cons.mpr ⟨hz, q⟩))
      exact ⟨i + 1, j + 1, by omega, by rw [List.length_cons]; omega, by rw [List.getElem?_cons_succ, List.getElem?_cons_succ]; exact h3⟩
theorem nodup_full {n : Nat} {W : List Nat} (hn : W.length = n) (hl : ∀ x ∈ W, x < n) : (∀ x, x < n → x ∈ W) ↔ W.Nodup := by
  constructor
  · intro h
    apply Classical.byContradiction
    intro hnd
    obtain ⟨i, j, hij, hj, he⟩ := dup_at W hnd
    have hc := cover_le n (W.eraseIdx j) (fun x hx => by
      obtain ⟨k, hk⟩ := List.getElem?_of_mem (h x hx)
      rw [List.mem_iff_getElem?]
      have hkl := (List.getElem?_eq_some_iff.mp hk).1
      by_cases hkj : k < j
      · exact ⟨k, by rw [List.getElem?_eraseIdx, if_pos hkj]; exact hk⟩
      · by_cases hkj2 : k = j
        · exact ⟨i, by rw [List.getElem?_eraseIdx, if_pos hij, he, ← hkj2]; exact hk⟩
        · exact ⟨k - 1, by rw [List.getElem?_eraseIdx, if_neg (by omega), show k - 1 + 1 = k by omega]; exact hk⟩)
    rw [List.length_eraseIdx, if_pos hj] at hc
    omega
  · intro h x hx
    exact nodup_all n W hn h hl x hx
def wN (V : List Int32) : List Nat := V.map (fun x => x.toInt.toNat)
theorem wN_get {V : List Int32} {i : Nat} (h : i < V.length) : (wN V)[i]? = some (V.getD i 0).toInt.toNat := by
  unfold wN
  rw [List.getElem?_map, getD_ai h]; rfl
theorem msk_bset {V : List Int32} (h : ∀ t, t < V.length → 0 ≤ (V.getD t 0).toInt ∧ (V.getD t 0).toInt < 6) : ∀ t, t ≤ V.length → mskF V t = nI (bset ((wN V).take t))
  | 0, _ => rfl
  | t + 1, ht => by
    have hb := h t (by omega)
    rw [mskF, msk_bset h t (by omega), List.take_succ, wN_get (by omega)]
    show _ = nI (bset ((wN V).take t ++ [(V.getD t 0).toInt.toNat]))
    rw [bset_snoc, ← or_nI]
    congr 1
    have h1 := t_of (a := V.getD t 0) hb.1
    rw [h1, bit_nI (by omega), ← h1]
section S95a
variable {E : GE} {M : GM} {d mc ms : Nat} {A : Nat → Prop} {Q : Option Value → va_W → Prop} {k n pc : Nat} {ls : List (Option Value)} {st : List Value} {ws : va_W}
set_option maxRecDepth 20000 in
theorem c_X8_isSheet (hN : g_N E) (x : Int32) : g_Ci E mX8_isSheet (d + 2) [.int x] [] (fun r w => r = (g_bi (0 ≤ x.toInt ∧ x.toInt ≤ 3)) ∧ w = []) := by
  refine g_enter hN.1 (by decide) [some (.int x)] rfl (Nat.le_of_ble_eq_true rfl) (fun A => ?_)
  skip
  refine g_iload0 dX8_isSheet_0 (g_i2l dX8_isSheet_1 (g_lconst kl_0 dX8_isSheet_2 (g_ldc2_w kj_X8_356 dX8_isSheet_3 (r_X8_in hN mv_X8_106 dX8_isSheet_6 (Nat.le_of_ble_eq_true rfl) (Nat.le_of_ble_eq_true rfl) rfl (g_zret rfl (by first | exact g_bi01 _ | exact Or.inl rfl | exact Or.inr rfl) dX8_isSheet_9 (Nat.le_of_ble_eq_true rfl) (Nat.le_of_ble_eq_true rfl) ?q9)))))
  exact ⟨_, rfl, by simp only [Int32.toInt_toInt64, tl_0, tl_3], rfl⟩
theorem r_X8_isSheet (hN : g_N E) {idx : Nat} {x : Int32} (hm : MS M.1.cls idx mX8_isSheet 1) (hd : decode M.2.1 pc = .ok (.invokestatic idx, 3)) (hk : k ≤ mc) (hn : n ≤ ms) (hr : Nat.ble (st.map fun v => v.category).sum 8 = true) (kk : G E M (d + 3) mc ms A Q k n (pc + 3) ls (.int (g_bi (0 ≤ x.toInt ∧ x.toInt ≤ 3)) :: st) ws) : G E M (d + 3) mc ms A Q k n pc ls (.int x :: st) ws :=
  g_S1i hd hm hr hk hn ((c_X8_isSheet hN x).none) (fun r_ w_ hq => by obtain ⟨w1_, ⟨h1_, h2_⟩, rfl⟩ := hq; rw [List.append_nil] at h2_; rw [h1_, h2_]; exact kk)
end S95a
section S95
variable {E : GE} {d : Nat} {b : Nat → Nat} {v : Nat → Int32} {t : Int64} {f : Nat → Nat → Int32} {D : Dg} {i : Nat} {s : Int32 × List Int32}
theorem ix_40 {i p : Nat} (hi : i < 4) (hp : p < 1000) : (40 * nI i + nI p).toInt = ((40 * i + p : Nat) : Int) := by
  have : (40 : Int32) * nI i = nI (40 * i) := by rw [← pk_mul]; rfl
  rw [this, nI_add, t_nI (by omega)]
set_option maxRecDepth 20000 in
set_option maxHeartbeats 4000000 in
theorem c_X8_orderBad (hN : g_N E) (hD : dgOK D) (hM : MD v f D) (hS : MSh f i s) (x : Int32) (hx : shN x i) : g_Ci E mX8_orderBad (d + 3) [.ref (b 0), .int x] (mW E b v t f) (fun z w => z = sRef D s x ∧ w = mW E b v t f) := by
  obtain ⟨n0, n1, n2⟩ := hM.n1 hD.1
  have hn := hD.1
  obtain ⟨hi4, hs40, hso, hm1, hm2⟩ := hS
  have h64 := two_pow6 hn
  refine g_enterI hN.1 (by decide) [some (.ref (b 0)), some (.int x), none, none, none] rfl (Nat.le_of_ble_eq_true rfl) (fun A Q hQ => ?_)
  have tcm11 := tc_m11; have tcm2 := tc_m2; have tc0 := tc_0; have tc1 := tc_1; have tc40 := tc_40
  unfold sRef at hQ
  refine g_iload1 dX8_orderBad_0 (r_X8_isSheet hN mv_X8_300 dX8_orderBad_1 (Nat.le_of_ble_eq_true rfl) (Nat.le_of_ble_eq_true rfl) rfl (g_if_ne (tgt := 10) dX8_orderBad_4 (by decide) (fun h4 => ?s10) (fun h4 => g_bipush kb_m2 dX8_orderBad_7 (g_iret rfl dX8_orderBad_9 (Nat.le_of_ble_eq_true rfl) (Nat.le_of_ble_eq_true rfl) ?q9))))
  all_goals try simp only [g_biz, Int32.toInt_toInt64, tl_m4611686018427387904, tl_m1, tl_0, tl_1, tl_2, tl_3, tl_4, tl_5, tl_9, tl_10, tl_20, tl_40, tl_43, tl_48, tl_57, tl_60, tl_97, tl_99, tl_122, tl_255] at *
  case q9 => rw [if_pos (by omega)] at hQ; exact hQ _ _ ⟨rfl, rfl⟩
  case s10 =>
    have hxi := hx (by omega)
    have hxx : x = nI i := by rw [← hxi]; exact t_of (by omega)
    have ei := t_nI (n := i) (by omega)
    subst hxx
    rw [if_neg (by omega)] at hQ
    by_cases hms : s.1.toInt = -1
    · have h52 := hm1 hms
      have e52 : (f 52 i).toInt = 0 := by rw [h52]; decide
      rw [if_pos hms] at hQ
      refine g_aload0 dX8_orderBad_10 (g_mget fl_X8_83 mg_52 dX8_orderBad_11 (g_iload1 dX8_orderBad_14 (g_mba ma_52 dX8_orderBad_15 ?b15_2 (g_if_ne (tgt := 22) dX8_orderBad_16 (by decide) (fun h16 => ?s22_2) (fun h16 => g_bipush kb_m11 dX8_orderBad_19 (g_iret rfl dX8_orderBad_21 (Nat.le_of_ble_eq_true rfl) (Nat.le_of_ble_eq_true rfl) ?q21_2))))))
      all_goals try rw [ei, Int.toNat_natCast] at h16
      case b15_2 => omega
      case s22_2 => omega
      case q21_2 => exact hQ _ _ ⟨rfl, rfl⟩
    · obtain ⟨h52, h53, h54, h55⟩ := hm2 hms
      have e52 : (f 52 i).toInt = 1 := by rw [h52]; decide
      have e54 : (f 54 i).toInt = s.2.length := by rw [h54, t_nI (by omega)]
      rw [if_neg hms] at hQ
      have loop : ∀ u p l4, p + u = D.1.length → s.2.length = D.1.length → (∀ t, t < p → 0 ≤ (s.2.getD t 0).toInt ∧ (s.2.getD t 0).toInt < D.1.length) → ((wN s.2).take p).Nodup → G E mX8_orderBad (d + 3) 0 0 A Q 0 0 42 [some (.ref (b 0)), some (.int (nI i)), some (.int (nI (bset ((wN s.2).take p)))), some (.int (nI p)), l4] [] (mW E b v t f) := by
        intro u
        induction u with
        | zero =>
          intro p l4 hp hl hin hnd
          have ep := t_nI (n := p) (by omega)
          have hwl : (wN s.2).length = D.1.length := by unfold wN; rw [List.length_map]; exact hl
          have htk : (wN s.2).take p = wN s.2 := List.take_of_length_le (by omega)
          rw [htk] at hnd
          have hlt : ∀ y ∈ wN s.2, y < D.1.length := by
            intro y hy
            obtain ⟨k, hk⟩ := List.getElem?_of_mem hy
            have hk2 := (List.getElem?_eq_some_iff.mp hk).1
            rw [wN_get (by omega)] at hk
            have := hin k (by omega)
            have h3 := Option.some.inj hk
            omega
          have hfull := (bset_full hlt).mpr ((nodup_full hwl hlt).mpr hnd)
          have hmsk := msk_bset (V := s.2) (fun t ht => by have := hin t (by omega); omega) s.2.length (Nat.le_refl _)
          rw [List.take_of_length_le (by omega), hfull] at hmsk
          rw [if_neg (by omega), if_pos ⟨fun t ht => hin t (by omega), by rw [hmsk]⟩] at hQ
          refine g_iload3 dX8_orderBad_42 (g_aload0 dX8_orderBad_43 (g_mget fl_X8_103 mg_12 dX8_orderBad_44 (g_icmp_ge (tgt := 98) dX8_orderBad_47 (by decide) (fun h47 => g_iconst ki_0 dX8_orderBad_98 (g_iret rfl dX8_orderBad_99 (Nat.le_of_ble_eq_true rfl) (Nat.le_of_ble_eq_true rfl) ?q99_3)) (fun h47 => ?s50_3))))
          case s50_3 => omega
          case q99_3 => exact hQ _ _ ⟨rfl, rfl⟩
        | succ u ih =>
          intro p l4 hp hl hin hnd
          have ep := t_nI (n := p) (by omega)
          have hwl : (wN s.2).length = D.1.length := by unfold wN; rw [List.length_map]; exact hl
          have hit := h55 p _ (getD_ai (by omega))
          have hix := ix_40 (i := i) (p := p) hi4 (by omega)
          have hwp := wN_get (V := s.2) (i := p) (by omega)
          rw [if_neg (show ¬ ¬ s.2.length = D.1.length by omega)] at hQ
          have bad : ¬ ((∀ t, t < s.2.length → 0 ≤ (s.2.getD t 0).toInt ∧ (s.2.getD t 0).toInt < D.1.length) ∧ (mskF s.2 s.2.length).toInt = (nI (2 ^ D.1.length - 1)).toInt) → Q (some (.int (-2))) (mW E b v t f) := by
            intro h
            rw [if_neg h] at hQ
            exact hQ _ _ ⟨rfl, rfl⟩
          have tc40 := tc_40
          refine g_iload3 dX8_orderBad_42 (g_aload0 dX8_orderBad_43 (g_mget fl_X8_103 mg_12 dX8_orderBad_44 (g_icmp_ge (tgt := 98) dX8_orderBad_47 (by decide) (fun h47 => g_iconst ki_0 dX8_orderBad_98 (g_iret rfl dX8_orderBad_99 (Nat.le_of_ble_eq_true rfl) (Nat.le_of_ble_eq_true rfl) ?q99_4)) (fun h47 => g_aload0 dX8_orderBad_50 (g_mget fl_X8_93 mg_55 dX8_orderBad_51 (g_bipush kb_40 dX8_orderBad_54 (g_iload1 dX8_orderBad_56 (g_imul dX8_orderBad_57 (g_iload3 dX8_orderBad_58 (g_iadd dX8_orderBad_59 (g_mia ma_55 dX8_orderBad_60 ?b60_4 (g_istore4 dX8_orderBad_61 rfl rfl (?s63_4)))))))))))))
          case b60_4 => rw [hix]; show _ ∧ _ < (160 : Int); omega
          case q99_4 => omega
          case s63_4 =>
            rw [hix, Int.toNat_natCast, hit]
            by_cases hdg : 0 ≤ (s.2.getD p 0).toInt ∧ (s.2.getD p 0).toInt < D.1.length
            · have hd := t_of (a := s.2.getD p 0) hdg.1
              have hpre : ∀ y ∈ (wN s.2).take p, y < 6 := by
                intro y hy
                obtain ⟨k, hk⟩ := List.getElem?_of_mem hy
                have hk2 := (List.getElem?_eq_some_iff.mp hk).1
                rw [List.length_take] at hk2
                rw [List.getElem?_take, if_pos (by omega), wN_get (by omega)] at hk
                have := hin k (by omega)
                have h3 := Option.some.inj hk
                omega
              have hbs := bset_lt _ hpre
              have sb := sbit (bset ((wN s.2).take p)) hbs (s.2.getD p 0).toInt.toNat (by omega)
              rw [← hd, bset_bit] at sb
              have htk : (wN s.2).take (p + 1) = (wN s.2).take p ++ [(s.2.getD p 0).toInt.toNat] := by rw [List.take_succ, hwp]; rfl
              by_cases hmem : (s.2.getD p 0).toInt.toNat ∈ (wN s.2).take p
              · rw [decide_eq_true hmem, if_pos rfl] at sb
                have e1 : (nI 1).toInt = 1 := by decide
                have hb := bad (fun q => by
                  have hlt : ∀ y ∈ wN s.2, y < D.1.length := by
                    intro y hy
                    obtain ⟨k, hk⟩ := List.getElem?_of_mem hy
                    have hk2 := (List.getElem?_eq_some_iff.mp hk).1
                    rw [wN_get (by omega)] at hk
                    have := q.1 k (by omega)
                    have h3 := Option.some.inj hk
                    omega
                  have hmsk := msk_bset (V := s.2) (fun t ht => by have := q.1 t (by omega); omega) s.2.length (Nat.le_refl _)
                  rw [List.take_of_length_le (by omega)] at hmsk
                  have hbl := bset_lt (wN s.2) (fun y hy => by have := hlt y hy; omega)
                  have hq2 := q.2
                  rw [hmsk, t_nI (by omega), t_nI (by omega)] at hq2
                  have hfull := (bset_full hlt).mp (by omega)
                  have hnd2 := (nodup_full hwl hlt).mp hfull
                  exact nodup_take (wN s.2) p _ hnd2 hwp hmem)
                refine g_aload0 dX8_orderBad_63 (g_iload4 dX8_orderBad_64 (r_X8_isDog hN mv_X8_119 dX8_orderBad_66 (Nat.le_of_ble_eq_true rfl) (Nat.le_of_ble_eq_true rfl) rfl (g_if_eq (tgt := 82) dX8_orderBad_69 (by decide) (fun h69 => g_bipush kb_m2 dX8_orderBad_82 (g_iret rfl dX8_orderBad_84 (Nat.le_of_ble_eq_true rfl) (Nat.le_of_ble_eq_true rfl) ?q84_5)) (fun h69 => g_iload2 dX8_orderBad_72 (g_iload4 dX8_orderBad_73 (g_ishr dX8_orderBad_75 (g_iconst ki_1 dX8_orderBad_76 (g_iand dX8_orderBad_77 (g_iconst ki_1 dX8_orderBad_78 (g_icmp_ne (tgt := 85) dX8_orderBad_79 (by decide) (fun h79 => ?s85_5) (fun h79 => g_bipush kb_m2 dX8_orderBad_82 (g_iret rfl dX8_orderBad_84 (Nat.le_of_ble_eq_true rfl) (Nat.le_of_ble_eq_true rfl) ?q84_5'))))))))))))
                all_goals try simp only [g_biz, Int32.toInt_toInt64, tl_m4611686018427387904, tl_m1, tl_0, tl_1, tl_2, tl_3, tl_4, tl_5, tl_9, tl_10, tl_20, tl_40, tl_43, tl_48, tl_57, tl_60, tl_97, tl_99, tl_122, tl_255] at *
                all_goals try rw [sb] at h79
                case s85_5 => omega
                case q84_5 => omega
                case q84_5' => exact hb
              · rw [decide_eq_false hmem, if_neg (by decide)] at sb
                have e0 : (nI 0).toInt = 0 := by decide
                refine g_aload0 dX8_orderBad_63 (g_iload4 dX8_orderBad_64 (r_X8_isDog hN mv_X8_119 dX8_orderBad_66 (Nat.le_of_ble_eq_true rfl) (Nat.le_of_ble_eq_true rfl) rfl (g_if_eq (tgt := 82) dX8_orderBad_69 (by decide) (fun h69 => g_bipush kb_m2 dX8_orderBad_82 (g_iret rfl dX8_orderBad_84 (Nat.le_of_ble_eq_true rfl) (Nat.le_of_ble_eq_true rfl) ?q84_6)) (fun h69 => g_iload2 dX8_orderBad_72 (g_iload4 dX8_orderBad_73 (g_ishr dX8_orderBad_75 (g_iconst ki_1 dX8_orderBad_76 (g_iand dX8_orderBad_77 (g_iconst ki_1 dX8_orderBad_78 (g_icmp_ne (tgt := 85) dX8_orderBad_79 (by decide) (fun h79 => ?s85_6) (fun h79 => g_bipush kb_m2 dX8_orderBad_82 (g_iret rfl dX8_orderBad_84 (Nat.le_of_ble_eq_true rfl) (Nat.le_of_ble_eq_true rfl) ?q84_6'))))))))))))
                all_goals try simp only [g_biz, Int32.toInt_toInt64, tl_m4611686018427387904, tl_m1, tl_0, tl_1, tl_2, tl_3, tl_4, tl_5, tl_9, tl_10, tl_20, tl_40, tl_43, tl_48, tl_57, tl_60, tl_97, tl_99, tl_122, tl_255] at *
                all_goals try rw [sb] at h79
                case q84_6 => omega
                case q84_6' => omega
                case s85_6 =>
                  have hb1 : (1 : Int32) <<< ((s.2.getD p 0) &&& 31) = nI (1 <<< (s.2.getD p 0).toInt.toNat) := by
                    conv => lhs; rw [hd]
                    exact bit_nI (by omega)
                  refine g_iload2 dX8_orderBad_85 (g_iconst ki_1 dX8_orderBad_86 (g_iload4 dX8_orderBad_87 (g_ishl dX8_orderBad_89 (g_ior dX8_orderBad_90 (g_istore2 dX8_orderBad_91 rfl rfl (g_iinc3 ki_1 dX8_orderBad_92 rfl rfl (g_goto (tgt := 42) dX8_orderBad_95 (by decide) (?s42_7))))))))
                  rw [hb1, or_nI, ← bset_snoc, ← htk, nI_1]
                  refine ih (p + 1) _ (by omega) hl ?_ ?_
                  · intro t ht
                    by_cases htp : t = p
                    · rw [htp]; exact hdg
                    · exact hin t (by omega)
                  · rw [htk, List.nodup_append]
                    exact ⟨hnd, by simp, fun a ha c hc => by rw [List.mem_singleton.mp hc]; exact fun q => hmem (q ▸ ha)⟩
            · have hb := bad (fun q => hdg (q.1 p (by omega)))
              refine g_aload0 dX8_orderBad_63 (g_iload4 dX8_orderBad_64 (r_X8_isDog hN mv_X8_119 dX8_orderBad_66 (Nat.le_of_ble_eq_true rfl) (Nat.le_of_ble_eq_true rfl) rfl (g_if_eq (tgt := 82) dX8_orderBad_69 (by decide) (fun h69 => g_bipush kb_m2 dX8_orderBad_82 (g_iret rfl dX8_orderBad_84 (Nat.le_of_ble_eq_true rfl) (Nat.le_of_ble_eq_true rfl) ?q84_8)) (fun h69 => ?s72_8))))
              all_goals try simp only [g_biz, Int32.toInt_toInt64, tl_m4611686018427387904, tl_m1, tl_0, tl_1, tl_2, tl_3, tl_4, tl_5, tl_9, tl_10, tl_20, tl_40, tl_43, tl_48, tl_57, tl_60, tl_97, tl_99, tl_122, tl_255] at *
              case s72_8 => omega
              case q84_8 => exact hb
      refine g_aload0 dX8_orderBad_10 (g_mget fl_X8_83 mg_52 dX8_orderBad_11 (g_iload1 dX8_orderBad_14 (g_mba ma_52 dX8_orderBad_15 ?b15_9 (g_if_ne (tgt := 22) dX8_orderBad_16 (by decide) (fun h16 => g_aload0 dX8_orderBad_22 (g_mget fl_X8_90 mg_54 dX8_orderBad_23 (g_iload1 dX8_orderBad_26 (g_mia ma_54 dX8_orderBad_27 ?b27_9 (g_aload0 dX8_orderBad_28 (g_mget fl_X8_103 mg_12 dX8_orderBad_29 (g_icmp_eq (tgt := 38) dX8_orderBad_32 (by decide) (fun h32 => g_iconst ki_0 dX8_orderBad_38 (g_istore2 dX8_orderBad_39 rfl rfl (g_iconst ki_0 dX8_orderBad_40 (g_istore3 dX8_orderBad_41 rfl rfl (?s42_9))))) (fun h32 => g_bipush kb_m2 dX8_orderBad_35 (g_iret rfl dX8_orderBad_37 (Nat.le_of_ble_eq_true rfl) (Nat.le_of_ble_eq_true rfl) ?q37_9))))))))) (fun h16 => g_bipush kb_m11 dX8_orderBad_19 (g_iret rfl dX8_orderBad_21 (Nat.le_of_ble_eq_true rfl) (Nat.le_of_ble_eq_true rfl) ?q21_9))))))
      all_goals try rw [ei, Int.toNat_natCast] at h16
      all_goals try rw [ei, Int.toNat_natCast] at h32
      case b15_9 => omega
      case b27_9 => omega
      case q21_9 => omega
      case q37_9 =>
        rw [if_pos (by omega)] at hQ
        exact hQ _ _ ⟨rfl, rfl⟩
      case s42_9 => exact loop D.1.length 0 _ (by omega) (by omega) (fun t ht => absurd ht (Nat.not_lt_zero t)) (by simp)
set_option maxRecDepth 20000 in
set_option maxHeartbeats 4000000 in
theorem c_X8_swaps (hN : g_N E) (hD : dgOK D) (hM : MD v f D) (hS : MSh f i s) (x : Int32) (hx : shN x i) : g_Ci E mX8_swaps (d + 4) [.ref (b 0), .int x] (mW E b v t f) (fun z w => z = sSwaps D s x ∧ w = mW E b v t f) := by
  obtain ⟨n0, n1, n2⟩ := hM.n1 hD.1
  have hn := hD.1
  have l4 := hD.2.2.2.2.1
  refine g_enterI hN.1 (by decide) [some (.ref (b 0)), some (.int x), none, none, none, none] rfl (Nat.le_of_ble_eq_true rfl) (fun A Q hQ => ?_)
  have tc0 := tc_0; have tc1 := tc_1; have tc40 := tc_40
  unfold sSwaps at hQ
  refine g_aload0 dX8_swaps_0 (g_iload1 dX8_swaps_1 (?c2))
  refine g_V1i dX8_swaps_2 mv_X8_303 0 rfl rfl rfl (Nat.le_of_ble_eq_true rfl) (Nat.le_of_ble_eq_true rfl) (c_X8_orderBad (d := d) hN hD hM hS x hx) (fun z1_ w1 hq => ?_)
  obtain ⟨rfl, rfl⟩ := hq
  by_cases h0 : (sRef D s x).toInt = 0
  · rw [if_pos h0] at hQ
    obtain ⟨r1, r2, r3, r4, -⟩ := sRef_0 h0
    obtain ⟨hi4, hs40, hso, hm1, hm2⟩ := hS
    obtain ⟨h52, h53, h54, h55⟩ := hm2 r2
    have hxi := hx r1
    have hxx : x = nI i := by rw [← hxi]; exact t_of (by omega)
    subst hxx
    have pl : ∀ p, p < D.1.length → s.2.getD p 0 = nI (s.2.getD p 0).toInt.toNat ∧ (s.2.getD p 0).toInt.toNat ∈ D.2.2.2.2 ∧ plN D (s.2.getD p 0).toInt.toNat < 6 := by
      intro p hp
      have := r4 p (by omega)
      have hm := dg_mem hD (x := (s.2.getD p 0).toInt.toNat) (by omega)
      have := List.idxOf_lt_length_of_mem hm
      exact ⟨t_of (by omega), hm, by unfold plN; omega⟩
    have tc40 := tc_40
    have outer : ∀ u p l5, p + u = D.1.length → G E mX8_swaps (d + 4) 0 0 A Q 0 0 17 [some (.ref (b 0)), some (.int (nI i)), some (.int (sRef D s (nI i))), some (.int (nI (swF D s.2 p))), some (.int (nI p)), l5] [] (mW E b v t f) := by
      intro u
      induction u with
      | zero =>
        intro p l5 hp
        have ep := t_nI (n := p) (by omega)
        refine g_iload4 dX8_swaps_17 (g_aload0 dX8_swaps_19 (g_mget fl_X8_103 mg_12 dX8_swaps_20 (g_icmp_ge (tgt := 96) dX8_swaps_23 (by decide) (fun h23 => g_iload3 dX8_swaps_96 (g_iret rfl dX8_swaps_97 (Nat.le_of_ble_eq_true rfl) (Nat.le_of_ble_eq_true rfl) ?q97_2)) (fun h23 => ?s26_2))))
        case s26_2 => omega
        case q97_2 => exact hQ _ _ ⟨by rw [show p = s.2.length by omega], rfl⟩
      | succ u ih =>
        intro p l5 hp
        have ep := t_nI (n := p) (by omega)
        have hsw : swF D s.2 (p + 1) = swF D s.2 p + inF D s.2 p (s.2.length - 1 - p) := rfl
        obtain ⟨pd, pm, pb⟩ := pl p (by omega)
        have hitp := h55 p _ (getD_ai (by omega))
        have hixp := ix_40 (i := i) (p := p) hi4 (by omega)
        have inner : ∀ w q, p + 1 + q + w = D.1.length → G E mX8_swaps (d + 4) 0 0 A Q 0 0 32 [some (.ref (b 0)), some (.int (nI i)), some (.int (sRef D s (nI i))), some (.int (nI (swF D s.2 p + inF D s.2 p q))), some (.int (nI p)), some (.int (nI (p + 1 + q)))] [] (mW E b v t f) := by
          intro w
          induction w with
          | zero =>
            intro q hq
            have eq := t_nI (n := p + 1 + q) (by omega)
            refine g_iload5 dX8_swaps_32 (g_aload0 dX8_swaps_34 (g_mget fl_X8_103 mg_12 dX8_swaps_35 (g_icmp_ge (tgt := 90) dX8_swaps_38 (by decide) (fun h38 => g_iinc4 ki_1 dX8_swaps_90 rfl rfl (g_goto (tgt := 17) dX8_swaps_93 (by decide) (?s17_3))) (fun h38 => ?s41_3))))
            case s41_3 => omega
            case s17_3 =>
              rw [nI_1, show q = s.2.length - 1 - p by omega, ← hsw]
              exact ih (p + 1) _ (by omega)
          | succ w ihw =>
            intro q hq
            have eq := t_nI (n := p + 1 + q) (by omega)
            obtain ⟨qd, qm, qb⟩ := pl (p + 1 + q) (by omega)
            have hitq := h55 (p + 1 + q) _ (getD_ai (by omega))
            have hixq := ix_40 (i := i) (p := p + 1 + q) hi4 (by omega)
            have hin : inF D s.2 p (q + 1) = inF D s.2 p q + (if plN D (s.2.getD (p + 1 + q) 0).toInt.toNat < plN D (s.2.getD p 0).toInt.toNat then 1 else 0) := rfl
            have e1 := t_nI (n := plN D (s.2.getD p 0).toInt.toNat) (by omega)
            have e2 := t_nI (n := plN D (s.2.getD (p + 1 + q) 0).toInt.toNat) (by omega)
            have hnx := ihw (q + 1) (by omega)
            rw [hin] at hnx
            refine g_iload5 dX8_swaps_32 (g_aload0 dX8_swaps_34 (g_mget fl_X8_103 mg_12 dX8_swaps_35 (g_icmp_ge (tgt := 90) dX8_swaps_38 (by decide) (fun h38 => ?s90_4) (fun h38 => g_iload3 dX8_swaps_41 (g_aload0 dX8_swaps_42 (g_aload0 dX8_swaps_43 (g_mget fl_X8_93 mg_55 dX8_swaps_44 (g_bipush kb_40 dX8_swaps_47 (g_iload1 dX8_swaps_49 (g_imul dX8_swaps_50 (g_iload4 dX8_swaps_51 (g_iadd dX8_swaps_53 (g_mia ma_55 dX8_swaps_54 ?b54_4 (?c55_4))))))))))))))
            case s90_4 => omega
            case b54_4 => rw [hixp]; show _ ∧ _ < (160 : Int); omega
            case c55_4 =>
              rw [hixp, Int.toNat_natCast, hitp, pd]
              refine g_V1i dX8_swaps_55 mv_X8_127 0 rfl rfl rfl (Nat.le_of_ble_eq_true rfl) (Nat.le_of_ble_eq_true rfl) (c_X8_placeOf (d := d + 2) hN hD hM pm) (fun z1_ w1 hq => ?_)
              obtain ⟨rfl, rfl⟩ := hq
              refine g_aload0 dX8_swaps_58 (g_aload0 dX8_swaps_59 (g_mget fl_X8_93 mg_55 dX8_swaps_60 (g_bipush kb_40 dX8_swaps_63 (g_iload1 dX8_swaps_65 (g_imul dX8_swaps_66 (g_iload5 dX8_swaps_67 (g_iadd dX8_swaps_69 (g_mia ma_55 dX8_swaps_70 ?b70_5 (?c71_5)))))))))
              case b70_5 => rw [hixq]; show _ ∧ _ < (160 : Int); omega
              case c71_5 =>
                rw [hixq, Int.toNat_natCast, hitq, qd]
                refine g_V1i dX8_swaps_71 mv_X8_127 0 rfl rfl rfl (Nat.le_of_ble_eq_true rfl) (Nat.le_of_ble_eq_true rfl) (c_X8_placeOf (d := d + 2) hN hD hM qm) (fun z2_ w1 hq => ?_)
                obtain ⟨rfl, rfl⟩ := hq
                refine g_icmp_le (tgt := 81) dX8_swaps_74 (by decide) (fun h74 => g_iconst ki_0 dX8_swaps_81 (g_iadd dX8_swaps_82 (g_istore3 dX8_swaps_83 rfl rfl (g_iinc5 ki_1 dX8_swaps_84 rfl rfl (g_goto (tgt := 32) dX8_swaps_87 (by decide) (?s32_6)))))) (fun h74 => g_iconst ki_1 dX8_swaps_77 (g_goto (tgt := 82) dX8_swaps_78 (by decide) (g_iadd dX8_swaps_82 (g_istore3 dX8_swaps_83 rfl rfl (g_iinc5 ki_1 dX8_swaps_84 rfl rfl (g_goto (tgt := 32) dX8_swaps_87 (by decide) (?s32_6')))))))
                case s32_6 =>
                  rw [if_neg (by omega)] at hnx
                  rw [nI_1, Int32.add_zero]
                  exact hnx
                case s32_6' =>
                  rw [if_pos (by omega)] at hnx
                  rw [nI_1, nI_1]
                  exact hnx
        have hi0 := inner (D.1.length - (p + 1)) 0 (by omega)
        refine g_iload4 dX8_swaps_17 (g_aload0 dX8_swaps_19 (g_mget fl_X8_103 mg_12 dX8_swaps_20 (g_icmp_ge (tgt := 96) dX8_swaps_23 (by decide) (fun h23 => ?s96_7) (fun h23 => g_iload4 dX8_swaps_26 (g_iconst ki_1 dX8_swaps_28 (g_iadd dX8_swaps_29 (g_istore5 dX8_swaps_30 rfl rfl (?s32_7))))))))
        case s96_7 => omega
        case s32_7 =>
          rw [nI_1]
          exact hi0
    refine g_istore2 dX8_swaps_5 rfl rfl (g_iload2 dX8_swaps_6 (g_if_eq (tgt := 12) dX8_swaps_7 (by decide) (fun h7 => g_iconst ki_0 dX8_swaps_12 (g_istore3 dX8_swaps_13 rfl rfl (g_iconst ki_0 dX8_swaps_14 (g_istore4 dX8_swaps_15 rfl rfl (?s17_8))))) (fun h7 => g_iload2 dX8_swaps_10 (g_iret rfl dX8_swaps_11 (Nat.le_of_ble_eq_true rfl) (Nat.le_of_ble_eq_true rfl) ?q11_8))))
    case s17_8 => exact outer D.1.length 0 _ (by omega)
    case q11_8 => omega
  · rw [if_neg h0] at hQ
    refine g_istore2 dX8_swaps_5 rfl rfl (g_iload2 dX8_swaps_6 (g_if_eq (tgt := 12) dX8_swaps_7 (by decide) (fun h7 => ?s12_9) (fun h7 => g_iload2 dX8_swaps_10 (g_iret rfl dX8_swaps_11 (Nat.le_of_ble_eq_true rfl) (Nat.le_of_ble_eq_true rfl) ?q11_9))))
    case s12_9 => omega
    case q11_9 => exact hQ _ _ ⟨rfl, rfl⟩
end S95
