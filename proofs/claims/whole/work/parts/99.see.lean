/-! the model: rows of crossings that lead to an order -/
def p2 (x y : Nat × Nat) : Nat × Nat := (x.1 + y.1, x.2 + y.2)
def crX (p o : Nat) : Cr := (p, o, 0, 0, 0)
def mwF (n : Nat) (Gl : List Nat) : Nat → List Nat → List Cr → Nat × Nat
  | 0, O, X => if O = Gl then (1, if (X.foldl layL []).length = X.length then 1 else 0) else (0, 0)
  | r + 1, O, X => (List.range (n - 1)).foldl (fun acc p => p2 (p2 acc (mwF n Gl r (swapL O p) (X ++ [crX p 0]))) (mwF n Gl r (swapL O p) (X ++ [crX p 1]))) (0, 0)
def crZ (X : List Cr) : Prop := ∀ c ∈ X, c.1 < 1000 ∧ c.2.1 < 1000 ∧ ofN c = 0
theorem foldl_crS : ∀ (l acc : List Cr), crS acc → crS l → crS (l.foldl layL acc)
  | [], acc, h, _ => h
  | c :: l, acc, h, hl => by
    rw [List.foldl_cons]
    exact foldl_crS l _ (layL_crS h (hl c List.mem_cons_self)) (fun x hx => hl x (List.mem_cons_of_mem _ hx))
section S99
variable {E : GE} {d : Nat} {b : Nat → Nat} {t : Int64} {n i k : Nat} {Gl : List Nat}
set_option maxRecDepth 20000 in
set_option maxHeartbeats 2000000 in
theorem c_X8_rowsOf (hN : g_N E) (hn : n ≤ 6) (hk : k ≤ 4) (hi4 : i < 4) (hgl : Gl.length = n) (hgb : ∀ x ∈ Gl, x < 1000) : ∀ (r : Nat) (O : List Nat) (X : List Cr) (v : Nat → Int32) (f : Nat → Nat → Int32), X.length + r = k → O.length = n → (∀ x ∈ O, x < 1000) → crZ X → v 12 = nI n → (∀ p x, Gl[p]? = some x → f 55 (40 * i + p) = nI x) → Lst O (f 11) → Lst (X.map (fun c => c.1)) (f 38) → Lst (X.map (fun c => c.2.1)) (f 39) → g_Cv E mX8_rowsOf (d + r + 3) [.ref (b 0), .int (nI i), .int (nI k), .int (nI X.length)] (mW E b v t f) (fun w => ∃ v' f', w = mW E b v' t f' ∧ agV [34, 40, 41] v v' ∧ agF [11, 31, 32, 33, 38, 39] f f' ∧ Lst O (f' 11) ∧ Lst (X.map (fun c => c.1)) (f' 38) ∧ Lst (X.map (fun c => c.2.1)) (f' 39) ∧ v' 40 = v 40 + nI (mwF n Gl r O X).1 ∧ v' 41 = v 41 + nI (mwF n Gl r O X).2) := by
  have tc40 := tc_40
  intro r
  induction r with
  | zero =>
    intro O X v f hX hO hob hZ h12 hit hLO hLp hLo
    have e12 : (v 12).toInt = n := by rw [h12, t_nI (by omega)]
    have eX := t_nI (n := X.length) (by omega)
    have ek := t_nI (n := k) (by omega)
    refine g_enterV hN.1 (by decide) [some (.ref (b 0)), some (.int (nI i)), some (.int (nI k)), some (.int (nI X.length)), none, none] rfl (Nat.le_of_ble_eq_true rfl) (fun A Q hQ => ?_)
    have tc0 := tc_0; have tc1 := tc_1; have tc2 := tc_2; have tc40 := tc_40
    have cm : ∀ u j v2 f2 l5, j + u = k → O = Gl → agV [34] v v2 → agF [31, 32, 33] f f2 → MLf v2 f2 ((X.take j).foldl layL []) → G E mX8_rowsOf (d + 0 + 3) 0 0 A Q 0 0 54 [some (.ref (b 0)), some (.int (nI i)), some (.int (nI k)), some (.int (nI X.length)), some (.int (nI j)), l5] [] (mW E b v2 t f2) := by
      intro u
      induction u with
      | zero =>
        intro j v2 f2 l5 hj hOG h1 h2 h3
        have ej := t_nI (n := j) (by omega)
        have htk : X.take j = X := List.take_of_length_le (by omega)
        rw [htk] at h3
        have e34 : (v2 34).toInt = (X.foldl layL []).length := by rw [h3.2.1, t_nI (by have := h3.1; omega)]
        have e34u : (upd v2 40 (v2 40 + 1) 34).toInt = (X.foldl layL []).length := by rw [upd_o (by decide)]; exact e34
        have fin : ∀ z : Int32, z = nI (mwF n Gl 0 O X).2 → G E mX8_rowsOf (d + 0 + 3) 0 0 A Q 0 0 113 [some (.ref (b 0)), some (.int (nI i)), some (.int (nI k)), some (.int (nI X.length)), some (.int (nI j)), l5] [.int z, .int (v 41), .ref (b 0)] (mW E b (upd v2 40 (v2 40 + 1)) t f2) := by
          intro z hz
          refine g_iadd dX8_rowsOf_113 (g_mput fl_X8_319 fp_7_41 ms_41 rfl rfl rfl dX8_rowsOf_114 (g_vret rfl dX8_rowsOf_117 (Nat.le_of_ble_eq_true rfl) (Nat.le_of_ble_eq_true rfl) ?q117))
          refine hQ _ ⟨_, f2, rfl, ((h1.wk rfl).up 40 _ rfl).up 41 _ rfl, h2.wk rfl, by rw [h2.at 11 rfl]; exact hLO, by rw [h2.at 38 rfl]; exact hLp, by rw [h2.at 39 rfl]; exact hLo, ?_, ?_⟩
          · rw [upd_o (by decide), upd_s, h1.at 40 rfl]
            unfold mwF
            rw [if_pos hOG]
            rfl
          · rw [upd_s, hz]
        have hm : (mwF n Gl 0 O X).2 = if (X.foldl layL []).length = X.length then 1 else 0 := by unfold mwF; rw [if_pos hOG]
        refine g_iload4 dX8_rowsOf_54 (g_iload2 dX8_rowsOf_56 (g_icmp_ge (tgt := 85) dX8_rowsOf_57 (by decide) (fun h57 => g_aload0 dX8_rowsOf_85 (g_dup dX8_rowsOf_86 rfl (g_mget fl_X8_316 mg_40 dX8_rowsOf_87 (g_iconst ki_1 dX8_rowsOf_90 (g_iadd dX8_rowsOf_91 (g_mput fl_X8_316 fp_7_40 ms_40 rfl rfl rfl dX8_rowsOf_92 (g_aload0 dX8_rowsOf_95 (g_dup dX8_rowsOf_96 rfl (g_mget fl_X8_319 mg_41 dX8_rowsOf_97 (g_aload0 dX8_rowsOf_100 (g_mget fl_X8_274 mg_34 dX8_rowsOf_101 (g_iload2 dX8_rowsOf_104 (g_icmp_ne (tgt := 112) dX8_rowsOf_105 (by decide) (fun h105 => g_iconst ki_0 dX8_rowsOf_112 (?s113_2)) (fun h105 => g_iconst ki_1 dX8_rowsOf_108 (g_goto (tgt := 113) dX8_rowsOf_109 (by decide) (?s113_2')))))))))))))))) (fun h57 => ?s60_2)))
        case s60_2 => omega
        case s113_2 =>
          rw [if_neg (by omega)] at hm
          have := fin 0 (by rw [hm]; rfl)
          rw [upd_o (by decide), h1.at 41 rfl]
          exact this
        case s113_2' =>
          rw [if_pos (by omega)] at hm
          have := fin 1 (by rw [hm]; rfl)
          rw [upd_o (by decide), h1.at 41 rfl]
          exact this
      | succ u ih =>
        intro j v2 f2 l5 hj hOG h1 h2 h3
        have ej := t_nI (n := j) (by omega)
        obtain ⟨c, hc⟩ : ∃ c, X[j]? = some c := ⟨X[j], List.getElem?_eq_getElem (by omega)⟩
        obtain ⟨z1, z2, z3⟩ := hZ c (List.mem_of_getElem? hc)
        have q1 : f2 38 j = nI c.1 := by rw [h2.at 38 rfl]; exact hLp.at (by rw [List.getElem?_map, hc]; rfl)
        have q2 : f2 39 j = nI c.2.1 := by rw [h2.at 39 rfl]; exact hLo.at (by rw [List.getElem?_map, hc]; rfl)
        have hts : (X.take (j + 1)).foldl layL [] = layL ((X.take j).foldl layL []) c := by rw [List.take_succ, hc, List.foldl_append]; rfl
        have hlen := fold_len (X.take j) []
        rw [List.length_take, List.length_nil] at hlen
        have hcs := foldl_crS (X.take j) [] (fun x hx => by cases hx) (fun x hx => by have := hZ x (List.mem_of_mem_take hx); exact ⟨this.1, this.2.1⟩)
        have hcom := c_X8_comes (b := b) (t := t) (d := d) hN h3 hcs (by omega) (c := c) ⟨z1, z2⟩
        rw [z3] at hcom
        refine g_iload4 dX8_rowsOf_54 (g_iload2 dX8_rowsOf_56 (g_icmp_ge (tgt := 85) dX8_rowsOf_57 (by decide) (fun h57 => ?s85_3) (fun h57 => g_aload0 dX8_rowsOf_60 (g_aload0 dX8_rowsOf_61 (g_mget fl_X8_59 mg_38 dX8_rowsOf_62 (g_iload4 dX8_rowsOf_65 (g_mia ma_38 dX8_rowsOf_67 ?b67_3 (g_aload0 dX8_rowsOf_68 (g_mget fl_X8_62 mg_39 dX8_rowsOf_69 (g_iload4 dX8_rowsOf_72 (g_mia ma_39 dX8_rowsOf_74 ?b74_3 (g_iconst ki_0 dX8_rowsOf_75 (?c76_3)))))))))))))
        case s85_3 => omega
        case b67_3 => omega
        case b74_3 => omega
        case c76_3 =>
          rw [ej, Int.toNat_natCast, q1, q2]
          refine g_V3v dX8_rowsOf_76 mv_X8_277 0 rfl rfl rfl (Nat.le_of_ble_eq_true rfl) (Nat.le_of_ble_eq_true rfl) (hcom) (fun w1 hq => ?_)
          obtain ⟨v3, f3, rfl, g1, g2, g3⟩ := hq
          refine g_iinc4 ki_1 dX8_rowsOf_79 rfl rfl (g_goto (tgt := 54) dX8_rowsOf_82 (by decide) (?s54_4))
          rw [nI_1]
          exact ih (j + 1) v3 f3 _ (by omega) hOG (h1.tr g1) (h2.tr g2) (by rw [hts]; exact g3)
    have cmp : ∀ u p l5, p + u = n → (∀ j, j < p → O.getD j 0 = Gl.getD j 0) → G E mX8_rowsOf (d + 0 + 3) 0 0 A Q 0 0 8 [some (.ref (b 0)), some (.int (nI i)), some (.int (nI k)), some (.int (nI X.length)), some (.int (nI p)), l5] [] (mW E b v t f) := by
      intro u
      induction u with
      | zero =>
        intro p l5 hp hall
        have ep := t_nI (n := p) (by omega)
        have hOG : O = Gl := by
          apply List.ext_getElem?
          intro j
          by_cases hj : j < n
          · rw [getD_at (l := O) (by omega), getD_at (l := Gl) (by omega), hall j (by omega)]
          · rw [List.getElem?_eq_none (by omega), List.getElem?_eq_none (by omega)]
        refine g_iload4 dX8_rowsOf_8 (g_aload0 dX8_rowsOf_10 (g_mget fl_X8_103 mg_12 dX8_rowsOf_11 (g_icmp_ge (tgt := 46) dX8_rowsOf_14 (by decide) (fun h14 => g_aload0 dX8_rowsOf_46 (g_iconst ki_0 dX8_rowsOf_47 (g_mput fl_X8_274 fp_7_34 ms_34 rfl rfl rfl dX8_rowsOf_48 (g_iconst ki_0 dX8_rowsOf_51 (g_istore4 dX8_rowsOf_52 rfl rfl (?s54_5)))))) (fun h14 => ?s17_5))))
        case s17_5 => omega
        case s54_5 =>
          refine cm k 0 _ f _ (by omega) hOG (agV.rf.up 34 _ rfl) agF.rf ⟨Nat.zero_le _, upd_s, ?_, ?_, ?_⟩
          all_goals exact fun i x hx => by simp at hx
      | succ u ih =>
        intro p l5 hp hall
        have ep := t_nI (n := p) (by omega)
        have hix := ix_40 (i := i) (p := p) hi4 (by omega)
        have go := getD_at (l := O) (i := p) (by omega)
        have gg := getD_at (l := Gl) (i := p) (by omega)
        have bo := hob _ (List.mem_of_getElem? go)
        have bg := hgb _ (List.mem_of_getElem? gg)
        have q1 := hLO.at go
        have q2 := hit p _ gg
        have eo := t_nI (n := O.getD p 0) (by omega)
        have eg := t_nI (n := Gl.getD p 0) (by omega)
        refine g_iload4 dX8_rowsOf_8 (g_aload0 dX8_rowsOf_10 (g_mget fl_X8_103 mg_12 dX8_rowsOf_11 (g_icmp_ge (tgt := 46) dX8_rowsOf_14 (by decide) (fun h14 => ?s46_6) (fun h14 => g_aload0 dX8_rowsOf_17 (g_mget fl_X8_35 mg_11 dX8_rowsOf_18 (g_iload4 dX8_rowsOf_21 (g_mia ma_11 dX8_rowsOf_23 ?b23_6 (g_aload0 dX8_rowsOf_24 (g_mget fl_X8_93 mg_55 dX8_rowsOf_25 (g_bipush kb_40 dX8_rowsOf_28 (g_iload1 dX8_rowsOf_30 (g_imul dX8_rowsOf_31 (g_iload4 dX8_rowsOf_32 (g_iadd dX8_rowsOf_34 (g_mia ma_55 dX8_rowsOf_35 ?b35_6 (g_icmp_eq (tgt := 40) dX8_rowsOf_36 (by decide) (fun h36 => g_iinc4 ki_1 dX8_rowsOf_40 rfl rfl (g_goto (tgt := 8) dX8_rowsOf_43 (by decide) (?s8_6))) (fun h36 => g_vret rfl dX8_rowsOf_39 (Nat.le_of_ble_eq_true rfl) (Nat.le_of_ble_eq_true rfl) ?q39_6)))))))))))))))))
        case s46_6 => omega
        case b23_6 => omega
        case b35_6 => rw [hix]; show _ ∧ _ < (160 : Int); omega
        all_goals rw [hix, ep, Int.toNat_natCast, Int.toNat_natCast, q1, q2, eo, eg] at h36
        case s8_6 =>
          rw [nI_1]
          refine ih (p + 1) _ (by omega) ?_
          intro j hj
          by_cases hjp : j = p
          · rw [hjp]; omega
          · exact hall j (by omega)
        case q39_6 =>
          have hne : ¬ O = Gl := fun q => h36 (by rw [q])
          refine hQ _ ⟨v, f, rfl, agV.rf, agF.rf, hLO, hLp, hLo, ?_, ?_⟩
          all_goals
            unfold mwF
            rw [if_neg hne, show nI (0, 0).fst = (0 : Int32) from rfl, Int32.add_zero]
    refine g_iload3 dX8_rowsOf_0 (g_iload2 dX8_rowsOf_1 (g_icmp_ne (tgt := 118) dX8_rowsOf_2 (by decide) (fun h2 => ?s118_7) (fun h2 => g_iconst ki_0 dX8_rowsOf_5 (g_istore4 dX8_rowsOf_6 rfl rfl (?s8_7)))))
    case s118_7 => omega
    case s8_7 => exact cmp n 0 _ (by omega) (fun j hj => absurd hj (Nat.not_lt_zero j))
  | succ r ih =>
    intro O X v f hX hO hob hZ h12 hit hLO hLp hLo
    have e12 : (v 12).toInt = n := by rw [h12, t_nI (by omega)]
    have eX := t_nI (n := X.length) (by omega)
    have ek := t_nI (n := k) (by omega)
    refine g_enterV hN.1 (by decide) [some (.ref (b 0)), some (.int (nI i)), some (.int (nI k)), some (.int (nI X.length)), none, none] rfl (Nat.le_of_ble_eq_true rfl) (fun A Q hQ => ?_)
    have tc0 := tc_0; have tc1 := tc_1; have tc2 := tc_2; have tc40 := tc_40
    generalize hSF : (fun (acc : Nat × Nat) p => p2 (p2 acc (mwF n Gl r (swapL O p) (X ++ [crX p 0]))) (mwF n Gl r (swapL O p) (X ++ [crX p 1]))) = SF
    have step : ∀ (p o : Nat) (v2 : Nat → Int32) (f2 : Nat → Nat → Int32) (l5 : Option Value), p + 1 < n → o ≤ 1 → agV [34, 40, 41] v v2 → agF [11, 31, 32, 33, 38, 39] f f2 → Lst (swapL O p) (f2 11) → Lst (X.map (fun c => c.1)) (f2 38) → Lst (X.map (fun c => c.2.1)) (f2 39) → (∀ v3 f3, agV [34, 40, 41] v v3 → agF [11, 31, 32, 33, 38, 39] f f3 → Lst (swapL O p) (f3 11) → Lst (X.map (fun c => c.1)) (f3 38) → Lst (X.map (fun c => c.2.1)) (f3 39) → v3 40 = v2 40 + nI (mwF n Gl r (swapL O p) (X ++ [crX p o])).1 → v3 41 = v2 41 + nI (mwF n Gl r (swapL O p) (X ++ [crX p o])).2 → G E mX8_rowsOf (d + (r + 1) + 3) 0 0 A Q 0 0 141 [some (.ref (b 0)), some (.int (nI i)), some (.int (nI k)), some (.int (nI X.length)), some (.int (nI p)), some (.int (nI (o + 1)))] [] (mW E b v3 t f3)) → G E mX8_rowsOf (d + (r + 1) + 3) 0 0 A Q 0 0 141 [some (.ref (b 0)), some (.int (nI i)), some (.int (nI k)), some (.int (nI X.length)), some (.int (nI p)), some (.int (nI o))] [] (mW E b v2 t f2) := by
      intro p o v2 f2 l5 hp ho h1 h2 h3 h4 h5 kk
      have eo := t_nI (n := o) (by omega)
      have ep := t_nI (n := p) (by omega)
      have hXl : (X ++ [crX p o]).length = X.length + 1 := by rw [List.length_append]; rfl
      refine g_iload5 dX8_rowsOf_141 (g_iconst ki_2 dX8_rowsOf_143 (g_icmp_ge (tgt := 178) dX8_rowsOf_144 (by decide) (fun h144 => ?s178_8) (fun h144 => g_aload0 dX8_rowsOf_147 (g_mget fl_X8_59 mg_38 dX8_rowsOf_148 (g_iload3 dX8_rowsOf_151 (g_iload4 dX8_rowsOf_152 (g_mis ma_38 mas_38 dX8_rowsOf_154 ?b154_8 (g_aload0 dX8_rowsOf_155 (g_mget fl_X8_62 mg_39 dX8_rowsOf_156 (g_iload3 dX8_rowsOf_159 (g_iload5 dX8_rowsOf_160 (g_mis ma_39 mas_39 dX8_rowsOf_162 ?b162_8 (g_aload0 dX8_rowsOf_163 (g_iload1 dX8_rowsOf_164 (g_iload2 dX8_rowsOf_165 (g_iload3 dX8_rowsOf_166 (g_iconst ki_1 dX8_rowsOf_167 (g_iadd dX8_rowsOf_168 (?c169_8)))))))))))))))))))
      case s178_8 => omega
      case b154_8 => omega
      case b162_8 => omega
      case c169_8 =>
        rw [eX, Int.toNat_natCast, nI_1, ← hXl, updA_o (show (39 : Nat) ≠ 38 by decide)]
        have hag : agF [11, 31, 32, 33, 38, 39] f (updA (updA f2 38 (upd (f2 38) X.length (nI p))) 39 (upd (f2 39) X.length (nI o))) := (h2.up 38 _ rfl).up 39 _ rfl
        have L38 : Lst ((X ++ [crX p o]).map (fun c => c.1)) (updA (updA f2 38 (upd (f2 38) X.length (nI p))) 39 (upd (f2 39) X.length (nI o)) 38) := by
          rw [updA_o (by decide), updA_s, List.map_append]
          have := h4.push p
          rw [List.length_map] at this
          exact this
        have L39 : Lst ((X ++ [crX p o]).map (fun c => c.2.1)) (updA (updA f2 38 (upd (f2 38) X.length (nI p))) 39 (upd (f2 39) X.length (nI o)) 39) := by
          rw [updA_s, List.map_append]
          have := h5.push o
          rw [List.length_map] at this
          exact this
        have L11 : Lst (swapL O p) (updA (updA f2 38 (upd (f2 38) X.length (nI p))) 39 (upd (f2 39) X.length (nI o)) 11) := by
          rw [updA_o (by decide), updA_o (by decide)]; exact h3
        generalize updA (updA f2 38 (upd (f2 38) X.length (nI p))) 39 (upd (f2 39) X.length (nI o)) = f3 at *
        have hZ2 : crZ (X ++ [crX p o]) := by
          intro c hc
          rcases List.mem_append.mp hc with q | q
          · exact hZ c q
          · rw [List.mem_singleton.mp q]; unfold crX ofN; dsimp only; omega
        have hsp := swapL_perm O p
        refine g_V3v dX8_rowsOf_169 mv_X8_322 0 rfl rfl rfl (Nat.le_of_ble_eq_true rfl) (Nat.le_of_ble_eq_true rfl) (ih (swapL O p) (X ++ [crX p o]) v2 f3 (by omega) (by rw [swapL_len]; exact hO) (fun x hx => hob x (hsp.mem_iff.mp hx)) hZ2 (by rw [h1.at 12 rfl]; exact h12) (by rw [hag.at 55 rfl]; exact hit) L11 L38 L39) (fun w1 hq => ?_)
        obtain ⟨v3, f4, rfl, g1, g2, g3, g4, g5, g6, g7⟩ := hq
        refine g_iinc5 ki_1 dX8_rowsOf_172 rfl rfl (g_goto (tgt := 141) dX8_rowsOf_175 (by decide) (?s141_9))
        rw [nI_1]
        rw [List.map_append] at g4 g5
        exact kk v3 f4 (h1.tr g1) (hag.tr g2) g3 g4.pre g5.pre g6 g7
    have loop : ∀ u p v2 f2 l5 (acc : Nat × Nat), p + u = n - 1 → agV [34, 40, 41] v v2 → agF [11, 31, 32, 33, 38, 39] f f2 → Lst O (f2 11) → Lst (X.map (fun c => c.1)) (f2 38) → Lst (X.map (fun c => c.2.1)) (f2 39) → acc = (List.range p).foldl SF (0, 0) → v2 40 = v 40 + nI acc.1 → v2 41 = v 41 + nI acc.2 → G E mX8_rowsOf (d + (r + 1) + 3) 0 0 A Q 0 0 121 [some (.ref (b 0)), some (.int (nI i)), some (.int (nI k)), some (.int (nI X.length)), some (.int (nI p)), l5] [] (mW E b v2 t f2) := by
      intro u
      induction u with
      | zero =>
        intro p v2 f2 l5 acc hp h1 h2 h3 h4 h5 h6 h7 h8
        have ep : (nI p + 1).toInt = (p : Int) + 1 := by rw [nI_1, t_nI (by omega)]; omega
        have z12 : (v2 12).toInt = n := by rw [h1.at 12 rfl]; exact e12
        refine g_iload4 dX8_rowsOf_121 (g_iconst ki_1 dX8_rowsOf_123 (g_iadd dX8_rowsOf_124 (g_aload0 dX8_rowsOf_125 (g_mget fl_X8_103 mg_12 dX8_rowsOf_126 (g_icmp_ge (tgt := 190) dX8_rowsOf_129 (by decide) (fun h129 => g_vret rfl dX8_rowsOf_190 (Nat.le_of_ble_eq_true rfl) (Nat.le_of_ble_eq_true rfl) ?q190_10) (fun h129 => ?s132_10))))))
        case s132_10 => omega
        case q190_10 =>
          refine hQ _ ⟨v2, f2, rfl, h1, h2, h3, h4, h5, ?_, ?_⟩
          · rw [mwF, hSF, show n - 1 = p by omega, ← h6]; exact h7
          · rw [mwF, hSF, show n - 1 = p by omega, ← h6]; exact h8
      | succ u ihu =>
        intro p v2 f2 l5 acc hp h1 h2 h3 h4 h5 h6 h7 h8
        have ep : (nI p + 1).toInt = (p : Int) + 1 := by rw [nI_1, t_nI (by omega)]; omega
        have z12 : (v2 12).toInt = n := by rw [h1.at 12 rfl]; exact e12
        have hsf : (List.range (p + 1)).foldl SF (0, 0) = p2 (p2 acc (mwF n Gl r (swapL O p) (X ++ [crX p 0]))) (mwF n Gl r (swapL O p) (X ++ [crX p 1])) := by
          rw [List.range_succ, List.foldl_append, ← h6, ← hSF]; rfl
        refine g_iload4 dX8_rowsOf_121 (g_iconst ki_1 dX8_rowsOf_123 (g_iadd dX8_rowsOf_124 (g_aload0 dX8_rowsOf_125 (g_mget fl_X8_103 mg_12 dX8_rowsOf_126 (g_icmp_ge (tgt := 190) dX8_rowsOf_129 (by decide) (fun h129 => ?s190_11) (fun h129 => g_aload0 dX8_rowsOf_132 (g_iload4 dX8_rowsOf_133 (?c135_11))))))))
        case s190_11 => omega
        case c135_11 =>
          refine g_V1v dX8_rowsOf_135 mv_X8_270 0 rfl rfl rfl (Nat.le_of_ble_eq_true rfl) (Nat.le_of_ble_eq_true rfl) (c_X8_swap (d := d + r + 2) hN (p := p) (by omega)) (fun w1 hq => ?_)
          subst hq
          refine g_iconst ki_0 dX8_rowsOf_138 (g_istore5 dX8_rowsOf_139 rfl rfl (?s141_12))
          refine step p 0 v2 _ none (by omega) (by omega) h1 (h2.up 11 _ rfl) (by rw [updA_s]; exact h3.swG (by omega)) (by rw [updA_o (by decide)]; exact h4) (by rw [updA_o (by decide)]; exact h5) (fun v3 f3 a1 a2 a3 a4 a5 a6 a7 => ?_)
          refine step p 1 v3 f3 none (by omega) (by omega) a1 a2 a3 a4 a5 (fun v4 f4 b1 b2 b3 b4 b5 b6 b7 => ?_)
          have e2 : (nI (1 + 1)).toInt = 2 := by decide
          refine g_iload5 dX8_rowsOf_141 (g_iconst ki_2 dX8_rowsOf_143 (g_icmp_ge (tgt := 178) dX8_rowsOf_144 (by decide) (fun h144 => g_aload0 dX8_rowsOf_178 (g_iload4 dX8_rowsOf_179 (?c181_13))) (fun h144 => ?s147_13)))
          case s147_13 => omega
          case c181_13 =>
            refine g_V1v dX8_rowsOf_181 mv_X8_270 0 rfl rfl rfl (Nat.le_of_ble_eq_true rfl) (Nat.le_of_ble_eq_true rfl) (c_X8_swap (d := d + r + 2) hN (p := p) (by omega)) (fun w1 hq => ?_)
            subst hq
            refine g_iinc4 ki_1 dX8_rowsOf_184 rfl rfl (g_goto (tgt := 121) dX8_rowsOf_187 (by decide) (?s121_14))
            rw [nI_1]
            refine ihu (p + 1) v4 _ _ _ (by omega) b1 (b2.up 11 _ rfl) ?_ (by rw [updA_o (by decide)]; exact b4) (by rw [updA_o (by decide)]; exact b5) hsf.symm ?_ ?_
            · rw [updA_s]
              have := b3.swG (p := p) (by rw [swapL_len]; omega)
              rw [swapL_inv] at this
              exact this
            · rw [b6, a6, h7, Int32.add_assoc, Int32.add_assoc, nI_add, nI_add, ← Nat.add_assoc]; rfl
            · rw [b7, a7, h8, Int32.add_assoc, Int32.add_assoc, nI_add, nI_add, ← Nat.add_assoc]; rfl
    refine g_iload3 dX8_rowsOf_0 (g_iload2 dX8_rowsOf_1 (g_icmp_ne (tgt := 118) dX8_rowsOf_2 (by decide) (fun h2 => g_iconst ki_0 dX8_rowsOf_118 (g_istore4 dX8_rowsOf_119 rfl rfl (?s121_15))) (fun h2 => ?s5_15)))
    case s5_15 => omega
    case s121_15 => exact loop (n - 1) 0 v f _ (0, 0) (by omega) agV.rf agF.rf hLO hLp hLo rfl (by rw [show nI (0, 0).fst = (0 : Int32) from rfl, Int32.add_zero]) (by rw [show nI (0, 0).snd = (0 : Int32) from rfl, Int32.add_zero])
end S99
