/-! the tangle -/
def tanL (L : List Cr) : List Cr := L.foldl layL []
theorem layL_len (L : List Cr) (c : Cr) : (layL L c).length ≤ L.length + 1 := by
  unfold layL
  split
  · split
    · split
      · rw [List.length_eraseIdx]; split <;> omega
      · simp
    · simp
  · simp
theorem layL_sub (L : List Cr) (c x : Cr) (h : x ∈ layL L c) : x ∈ L ∨ x = c := by
  unfold layL at h
  have app : x ∈ L ++ [c] → x ∈ L ∨ x = c := fun q => by
    rcases List.mem_append.mp q with q | q
    · exact Or.inl q
    · exact Or.inr (List.mem_singleton.mp q)
  split at h
  · split at h
    · split at h
      · exact Or.inl (List.mem_of_mem_eraseIdx h)
      · exact app h
    · exact app h
  · exact app h
theorem fold_len : ∀ (l L : List Cr), (l.foldl layL L).length ≤ L.length + l.length
  | [], L => by simp
  | c :: l, L => by
    rw [List.foldl_cons, List.length_cons]
    have := fold_len l (layL L c)
    have := layL_len L c
    omega
theorem fold_sub : ∀ (l L : List Cr) (x : Cr), x ∈ l.foldl layL L → x ∈ L ∨ x ∈ l
  | [], L, x, h => Or.inl h
  | c :: l, L, x, h => by
    rw [List.foldl_cons] at h
    rcases fold_sub l _ x h with q | q
    · rcases layL_sub L c x q with z | z
      · exact Or.inl z
      · exact Or.inr (z ▸ List.mem_cons_self)
    · exact Or.inr (List.mem_cons_of_mem _ q)
theorem tanL_len (L : List Cr) : (tanL L).length ≤ L.length := by have := fold_len L []; simpa [tanL] using this
theorem tanL_sub {L : List Cr} {x : Cr} (h : x ∈ tanL L) : x ∈ L := by
  rcases fold_sub L [] x h with q | q
  · cases q
  · exact q
/-- the plait's crossings as they can be -/
def plOK (n : Nat) (L : List Cr) : Prop := ∀ c ∈ L, c.1 + 1 < n ∧ c.2.1 ≤ 1 ∧ c.2.2.1 < n ∧ c.2.2.2.1 < n ∧ c.2.2.2.2 < 64
/-- with the tangle's row -/
def Atg (E : GE) (a : Nat → Nat) (D : Dg) (r : Nat) (L Lt : List Cr) (im tc : Int32) (w : va_W) : Prop := ∃ wp wr wt, Pck E a 1 D r wp ∧ Row E a 7 L wr ∧ Row E a 25 Lt wt ∧ w = (a 0, dolO a im tc) :: (wp ++ (wr ++ wt))
section S43
variable {E : GE} {d : Nat} {a : Nat → Nat} {D : Dg} {r : Nat} {L Lt : List Cr} {im tc : Int32} {w : va_W}
set_option maxRecDepth 20000 in
set_option maxHeartbeats 1000000 in
theorem c_makeTangle (hN : g_N E) (hw : Atg E a D r L Lt im tc w) : g_Cv E mX7_makeTangle (d + 4) [.ref (a 0)] w (fun w' => Atg E a D r L (tanL L) im tc w') := by
  obtain ⟨wp, wr, wt, hp, hr, ht, rfl⟩ := hw
  have hp' := hp
  have hr' := hr
  obtain ⟨hD, kd, pc, nb, hs, od, rfl, -⟩ := hp
  obtain ⟨hL, pl, ov, on, ot, be, rfl, hrl⟩ := hr
  obtain ⟨-, pl2, ov2, on2, ot2, be2, rfl, -⟩ := ht
  have eL := t_nI (n := L.length) (by omega)
  refine g_enterV hN.1 (by decide) [some (.ref (a 0)), none, none] rfl (Nat.le_of_ble_eq_true rfl) (fun A Q hQ => ?_)
  have tc0 := tc_0; have tc1 := tc_1
  have loop : ∀ t i wt, i + t = L.length → Row E a 25 ((L.take i).foldl layL []) wt → G E mX7_makeTangle (d + 4) 0 0 A Q 0 0 18 [some (.ref (a 0)), some (.ref (a 7)), some (.int (nI i))] [] ((a 0, dolO a im tc) :: (packW E a 1 kd pc nb hs od (nI D.1.length) (nI r) ++ (rowW E a 7 pl ov on ot be (nI L.length) ++ wt))) := by
    intro t
    induction t with
    | zero =>
      intro i wt hi hwt
      have ei := t_nI (n := i) (by omega)
      rw [List.take_of_length_le (by omega)] at hwt
      refine g_iload2 dX7_makeTangle_18 (g_aload1 dX7_makeTangle_19 (g_get fl_X7_107 7 rfl rfl dX7_makeTangle_20 (g_icmp_ge (tgt := 69) dX7_makeTangle_23 (by decide) (fun h23 => g_vret rfl dX7_makeTangle_69 (Nat.le_of_ble_eq_true rfl) (Nat.le_of_ble_eq_true rfl) ?q69) (fun h23 => ?s26))))
      case s26 => omega
      case q69 => exact hQ _ ⟨_, _, _, hp', hr', hwt, rfl⟩
    | succ t ih =>
      intro i wt hi hwt
      have ei := t_nI (n := i) (by omega)
      obtain ⟨c, hc⟩ : ∃ c, L[i]? = some c := ⟨L[i], List.getElem?_eq_getElem (by omega)⟩
      have hrc := hrl i c hc
      have hlen : ((L.take i).foldl layL []).length < 40 := by
        have := fold_len (L.take i) []
        rw [List.length_take] at this
        simp at this
        omega
      have hstep : (L.take (i + 1)).foldl layL [] = layL ((L.take i).foldl layL []) c := by
        rw [List.take_succ, hc, List.foldl_append]; rfl
      have hwt' := hwt
      obtain ⟨-, pl3, ov3, on3, ot3, be3, rfl, -⟩ := hwt
      refine g_iload2 dX7_makeTangle_18 (g_aload1 dX7_makeTangle_19 (g_get fl_X7_107 7 rfl rfl dX7_makeTangle_20 (g_icmp_ge (tgt := 69) dX7_makeTangle_23 (by decide) (fun h23 => ?s69_2) (fun h23 => g_aload0 dX7_makeTangle_26 (g_get fl_X7_26 0 rfl rfl dX7_makeTangle_27 (g_aload1 dX7_makeTangle_30 (g_get fl_X7_165 7 rfl rfl dX7_makeTangle_31 (g_iload2 dX7_makeTangle_34 (g_iaload 8 rfl dX7_makeTangle_35 ?b35_2 (g_aload1 dX7_makeTangle_36 (g_get fl_X7_175 7 rfl rfl dX7_makeTangle_37 (g_iload2 dX7_makeTangle_40 (g_iaload 9 rfl dX7_makeTangle_41 ?b41_2 (g_aload1 dX7_makeTangle_42 (g_get fl_X7_200 7 rfl rfl dX7_makeTangle_43 (g_iload2 dX7_makeTangle_46 (g_iaload 10 rfl dX7_makeTangle_47 ?b47_2 (g_aload1 dX7_makeTangle_48 (g_get fl_X7_203 7 rfl rfl dX7_makeTangle_49 (g_iload2 dX7_makeTangle_52 (g_iaload 11 rfl dX7_makeTangle_53 ?b53_2 (g_aload1 dX7_makeTangle_54 (g_get fl_X7_319 7 rfl rfl dX7_makeTangle_55 (g_iload2 dX7_makeTangle_58 (g_iaload 12 rfl dX7_makeTangle_59 ?b59_2 (?c60_2))))))))))))))))))))))))))
      case s69_2 => omega
      case c60_2 =>
        rw [ei, Int.toNat_natCast, hrc.2.1, hrc.2.2.1, hrc.2.2.2.1, hrc.2.2.2.2.1, hrc.2.2.2.2.2]
        refine g_sub (ws' := ((a 0, dolO a im tc) :: (packW E a 1 kd pc nb hs od (nI D.1.length) (nI r) ++ rowW E a 7 pl ov on ot be (nI L.length))) ++ (rowW E a 25 pl3 ov3 on3 ot3 be3 (nI ((L.take i).foldl layL []).length) ++ [])) [0, 1, 2, 3, 4, 5, 6, 7, 8, 9, 10, 11, 12, 13, 14, 15, 16, 17, 18] (by decide) rfl ?_
        refine g_V5v dX7_makeTangle_60 mv_X7_322 13 rfl rfl rfl (Nat.le_of_ble_eq_true rfl) (Nat.le_of_ble_eq_true rfl) ((c_lay hN hwt' hlen hrc.1).frame) (fun w1 hq => ?_)
        obtain ⟨w2, hw2, rfl⟩ := hq
        refine g_iinc2 ki_1 dX7_makeTangle_63 rfl rfl (g_goto (tgt := 18) dX7_makeTangle_66 (by decide) (?s18_3))
        rw [nI_1, List.append_nil]
        rw [← hstep] at hw2
        exact ih (i + 1) w2 (by omega) hw2
      all_goals omega
  refine g_aload0 dX7_makeTangle_0 (g_get fl_X7_10 0 rfl rfl dX7_makeTangle_1 (g_get fl_X7_104 1 rfl rfl dX7_makeTangle_4 (g_astore1 dX7_makeTangle_7 rfl rfl (g_aload0 dX7_makeTangle_8 (g_get fl_X7_26 0 rfl rfl dX7_makeTangle_9 (g_iconst ki_0 dX7_makeTangle_12 (g_put fl_X7_107 fp_3_5 13 rfl rfl rfl (Nat.le_of_ble_eq_true rfl) dX7_makeTangle_13 (g_iconst ki_0 dX7_makeTangle_16 (g_istore2 dX7_makeTangle_17 rfl rfl (?s18_4))))))))))
  exact loop L.length 0 _ (by omega) (Row.mk (pl := pl2) (ov := ov2) (on := on2) (ot := ot2) (be := be2) rfl rfl (Nat.zero_le _) (fun i c h => by simp at h))
theorem Atg.lit (h : Atg E a D r L Lt im tc w) : ∃ kd pc nb hs od pl ov on ot be pl2 ov2 on2 ot2 be2, w = (a 0, dolO a im tc) :: (packW E a 1 kd pc nb hs od (nI D.1.length) (nI r) ++ (rowW E a 7 pl ov on ot be (nI L.length) ++ rowW E a 25 pl2 ov2 on2 ot2 be2 (nI Lt.length))) ∧ L.length ≤ 40 ∧ Lt.length ≤ 40 ∧ (∀ (i : Nat) (c : Cr), Lt[i]? = some c → rowE c (pl2 i) (ov2 i) (on2 i) (ot2 i) (be2 i)) ∧ Pck E a 1 D r (packW E a 1 kd pc nb hs od (nI D.1.length) (nI r)) ∧ Row E a 7 L (rowW E a 7 pl ov on ot be (nI L.length)) ∧ Row E a 25 Lt (rowW E a 25 pl2 ov2 on2 ot2 be2 (nI Lt.length)) := by
  obtain ⟨wp, wr, wt, hp, hr, ht, rfl⟩ := h
  have hp' := hp
  have hr' := hr
  have ht' := ht
  obtain ⟨hD, kd, pc, nb, hs, od, rfl, -⟩ := hp
  obtain ⟨hL, pl, ov, on, ot, be, rfl, -⟩ := hr
  obtain ⟨hL2, pl2, ov2, on2, ot2, be2, rfl, h2⟩ := ht
  exact ⟨kd, pc, nb, hs, od, pl, ov, on, ot, be, pl2, ov2, on2, ot2, be2, rfl, hL, hL2, h2, hp', hr', ht'⟩
theorem Atg.apk (h : Atg E a D r L Lt im tc w) : ∃ w1 w2, Apk E a D r L im tc w1 ∧ Row E a 25 Lt w2 ∧ w = w1 ++ w2 := by
  obtain ⟨wp, wr, wt, hp, hr, ht, rfl⟩ := h
  exact ⟨_, wt, ⟨wp, wr, hp, hr, rfl⟩, ht, by simp⟩
set_option maxRecDepth 20000 in
set_option maxHeartbeats 1000000 in
theorem c_comb (hN : g_N E) (hw : Atg E a D r L Lt im tc w) : g_Ci E mX7_comb (d + 5) [.ref (a 0)] w (fun y w' => y = nI (L.length - (tanL L).length) ∧ Atg E a D r (tanL L) (tanL L) im tc w') := by
  have hw' := hw
  obtain ⟨kd, pc, nb, hs, od, pl, ov, on, ot, be, pl2, ov2, on2, ot2, be2, rfl, hL, hLt, h2, hp, hr, ht⟩ := hw.lit
  have htl := tanL_len L
  refine g_enterI hN.1 (by decide) [some (.ref (a 0)), none] rfl (Nat.le_of_ble_eq_true rfl) (fun A Q hQ => ?_)
  skip
  refine g_aload0 dX7_comb_0 (g_get fl_X7_10 0 rfl rfl dX7_comb_1 (g_get fl_X7_104 1 rfl rfl dX7_comb_4 (g_get fl_X7_107 7 rfl rfl dX7_comb_7 (g_istore1 dX7_comb_10 rfl rfl (g_aload0 dX7_comb_11 (?c12))))))
  refine g_V0v dX7_comb_12 mv_X7_168 0 rfl rfl rfl (Nat.le_of_ble_eq_true rfl) (Nat.le_of_ble_eq_true rfl) (c_makeTangle hN hw') (fun w1 hq => ?_)
  have hw1 := hq
  obtain ⟨kd, pc, nb, hs, od, pl, ov, on, ot, be, pl2, ov2, on2, ot2, be2, rfl, hL, hLt, h2, hp, hr, ht⟩ := hw1.lit
  refine g_aload0 dX7_comb_15 (g_get fl_X7_10 0 rfl rfl dX7_comb_16 (g_get fl_X7_104 1 rfl rfl dX7_comb_19 (g_aload0 dX7_comb_22 (g_get fl_X7_26 0 rfl rfl dX7_comb_23 (?c26_2)))))
  refine g_sub (ws' := ((a 0, dolO a im tc) :: packW E a 1 kd pc nb hs od (nI D.1.length) (nI r)) ++ ((rowW E a 7 pl ov on ot be (nI L.length) ++ rowW E a 25 pl2 ov2 on2 ot2 be2 (nI (tanL L).length)) ++ [])) [0, 1, 2, 3, 4, 5, 6, 7, 8, 9, 10, 11, 12, 13, 14, 15, 16, 17, 18] (by decide) rfl ?_
  refine g_V1v dX7_comb_26 mv_X7_171 7 rfl rfl rfl (Nat.le_of_ble_eq_true rfl) (Nat.le_of_ble_eq_true rfl) ((c_rowBecome hN hr ht).frame) (fun w1 hq => ?_)
  obtain ⟨w2, ⟨w3, hw3, rfl⟩, rfl⟩ := hq
  have hw3' := hw3
  obtain ⟨-, pl5, ov5, on5, ot5, be5, rfl, -⟩ := hw3
  refine g_iload1 dX7_comb_29 (g_aload0 dX7_comb_30 (g_get fl_X7_26 0 rfl rfl dX7_comb_31 (g_get fl_X7_107 13 rfl rfl dX7_comb_34 (g_isub dX7_comb_37 (g_iret rfl dX7_comb_38 (Nat.le_of_ble_eq_true rfl) (Nat.le_of_ble_eq_true rfl) ?q38_3)))))
  exact hQ _ _ ⟨pk_sub htl, _, _, _, hp, hw3', ht, rfl⟩
def sLeft (Lt : List Cr) (v : Int32) : Int32 := if 0 ≤ v.toInt ∧ v.toInt < Lt.length then nI (10 * (Lt.getD v.toInt.toNat (0, 0, 0, 0, 0)).1 + (Lt.getD v.toInt.toNat (0, 0, 0, 0, 0)).2.1) else -1
set_option maxRecDepth 20000 in
set_option maxHeartbeats 1000000 in
theorem c_left (hN : g_N E) (hw : Atg E a D r L Lt im tc w) (v : Int32) : g_Ci E mX7_left (d + 5) [.ref (a 0), .int v] w (fun y w' => y = sLeft (tanL L) v ∧ Atg E a D r L (tanL L) im tc w') := by
  have hw' := hw
  obtain ⟨kd, pc, nb, hs, od, pl, ov, on, ot, be, pl2, ov2, on2, ot2, be2, rfl, hL, hLt, h2, hp, hr, ht⟩ := hw.lit
  have htl := tanL_len L
  refine g_enterI hN.1 (by decide) [some (.ref (a 0)), some (.int v)] rfl (Nat.le_of_ble_eq_true rfl) (fun A Q hQ => ?_)
  have tcm1 := tc_m1; have tc0 := tc_0; have tc1 := tc_1; have tc10 := tc_10
  refine g_aload0 dX7_left_0 (?c1)
  refine g_V0v dX7_left_1 mv_X7_168 0 rfl rfl rfl (Nat.le_of_ble_eq_true rfl) (Nat.le_of_ble_eq_true rfl) (c_makeTangle hN hw') (fun w1 hq => ?_)
  have hw1 := hq
  obtain ⟨kd, pc, nb, hs, od, pl, ov, on, ot, be, pl2, ov2, on2, ot2, be2, rfl, hL, hLt, h2, hp, hr, ht⟩ := hw1.lit
  have e1 := t_nI (n := (tanL L).length) (by omega)
  have e2 : (nI (tanL L).length - 1).toInt = ((tanL L).length : Int) - 1 := by rw [t_sub (by omega) (by omega)]; omega
  have z0 := g_biz (p := ((0 : Int32).toInt ≤ v.toInt ∧ v.toInt ≤ (nI (tanL L).length - 1).toInt))
  unfold sLeft at hQ
  refine g_iload1 dX7_left_4 (g_iconst ki_0 dX7_left_5 (g_aload0 dX7_left_6 (g_get fl_X7_26 0 rfl rfl dX7_left_7 (g_get fl_X7_107 13 rfl rfl dX7_left_10 (g_iconst ki_1 dX7_left_13 (g_isub dX7_left_14 (r_X7_isWithin hN mv_X7_100 dX7_left_15 (Nat.le_of_ble_eq_true rfl) (Nat.le_of_ble_eq_true rfl) rfl (g_if_ne (tgt := 23) dX7_left_18 (by decide) (fun h18 => g_bipush kb_10 dX7_left_23 (g_aload0 dX7_left_25 (g_get fl_X7_26 0 rfl rfl dX7_left_26 (g_get fl_X7_165 13 rfl rfl dX7_left_29 (g_iload1 dX7_left_32 (g_iaload 14 rfl dX7_left_33 ?b33_2 (g_imul dX7_left_34 (g_aload0 dX7_left_35 (g_get fl_X7_26 0 rfl rfl dX7_left_36 (g_get fl_X7_175 13 rfl rfl dX7_left_39 (g_iload1 dX7_left_42 (g_iaload 15 rfl dX7_left_43 ?b43_2 (g_iadd dX7_left_44 (g_iret rfl dX7_left_45 (Nat.le_of_ble_eq_true rfl) (Nat.le_of_ble_eq_true rfl) ?q45_2)))))))))))))) (fun h18 => g_iconst ki_m1 dX7_left_21 (g_iret rfl dX7_left_22 (Nat.le_of_ble_eq_true rfl) (Nat.le_of_ble_eq_true rfl) ?q22_2))))))))))
  case q22_2 => rw [if_neg (by omega)] at hQ; exact hQ _ _ ⟨rfl, hw1⟩
  case b33_2 => omega
  case b43_2 => omega
  case q45_2 =>
    rw [if_pos (by omega)] at hQ
    have hg : (tanL L)[v.toInt.toNat]? = some ((tanL L).getD v.toInt.toNat (0, 0, 0, 0, 0)) := by
      rw [List.getD_eq_getElem?_getD, List.getElem?_eq_getElem (by omega)]; rfl
    have hrc := h2 _ _ hg
    refine hQ _ _ ⟨?_, hw1⟩
    rw [hrc.2.1, hrc.2.2.1, show (10 : Int32) = nI 10 from rfl, pk_mul, nI_add]
end S43
