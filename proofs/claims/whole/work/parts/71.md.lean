/-! the model: what its fields tell of dogs and plait -/
def agV (S : List Nat) (v v' : Nat → Int32) : Prop := ∀ j, j ∉ S → v' j = v j
def agF (S : List Nat) (f f' : Nat → Nat → Int32) : Prop := ∀ j, j ∉ S → f' j = f j
theorem agV.rf {S : List Nat} {v : Nat → Int32} : agV S v v := fun _ _ => rfl
theorem agF.rf {S : List Nat} {f : Nat → Nat → Int32} : agF S f f := fun _ _ => rfl
theorem agV.up {S : List Nat} {v v' : Nat → Int32} (h : agV S v v') (k : Nat) (x : Int32) (hk : S.contains k = true) : agV S v (upd v' k x) := fun j hj => by
  rw [upd_o (fun q => hj (by rw [q]; exact List.contains_iff_mem.mp hk))]; exact h j hj
theorem updA_s {f : Nat → Nat → Int32} {i : Nat} {x : Nat → Int32} : updA f i x i = x := if_pos rfl
theorem updA_o {f : Nat → Nat → Int32} {i j : Nat} {x : Nat → Int32} (h : j ≠ i) : updA f i x j = f j := if_neg h
theorem agF.up {S : List Nat} {f f' : Nat → Nat → Int32} (h : agF S f f') (k : Nat) (x : Nat → Int32) (hk : S.contains k = true) : agF S f (updA f' k x) := fun j hj => by
  rw [updA_o (fun q => hj (by rw [q]; exact List.contains_iff_mem.mp hk))]; exact h j hj
theorem agV.tr {S : List Nat} {v v' v2 : Nat → Int32} (h : agV S v v') (h2 : agV S v' v2) : agV S v v2 := fun j hj => (h2 j hj).trans (h j hj)
theorem agF.tr {S : List Nat} {f f' f2 : Nat → Nat → Int32} (h : agF S f f') (h2 : agF S f' f2) : agF S f f2 := fun j hj => (h2 j hj).trans (h j hj)
theorem agV.wk {S S2 : List Nat} {v v' : Nat → Int32} (h : agV S v v') (hs : S.all (fun j => S2.contains j) = true) : agV S2 v v' := fun j hj => h j (fun q => hj (List.contains_iff_mem.mp (List.all_eq_true.mp hs j q)))
theorem agF.wk {S S2 : List Nat} {f f' : Nat → Nat → Int32} (h : agF S f f') (hs : S.all (fun j => S2.contains j) = true) : agF S2 f f' := fun j hj => h j (fun q => hj (List.contains_iff_mem.mp (List.all_eq_true.mp hs j q)))
theorem agV.at {S : List Nat} {v v' : Nat → Int32} (h : agV S v v') (k : Nat) (hk : S.contains k = false) : v' k = v k := h k (fun q => by rw [List.contains_iff_mem.mpr q] at hk; cases hk)
theorem agF.at {S : List Nat} {f f' : Nat → Nat → Int32} (h : agF S f f') (k : Nat) (hk : S.contains k = false) : f' k = f k := h k (fun q => by rw [List.contains_iff_mem.mpr q] at hk; cases hk)
def MD (v : Nat → Int32) (f : Nat → Nat → Int32) (D : Dg) : Prop := v 12 = nI D.1.length ∧ Lst D.1 (f 7) ∧ Lst D.2.1 (f 8) ∧ Lst D.2.2.1 (f 9) ∧ Lst D.2.2.2.1 (f 10) ∧ Lst D.2.2.2.2 (f 11)
def ML (v : Nat → Int32) (f : Nat → Nat → Int32) (L : List Cr) : Prop := L.length ≤ 40 ∧ v 15 = nI L.length ∧ Lst (L.map (fun c => c.1)) (f 13) ∧ Lst (L.map (fun c => c.2.1)) (f 14)
theorem MD.ag {S1 S2 : List Nat} {v v' : Nat → Int32} {f f' : Nat → Nat → Int32} {D : Dg} (h : MD v f D) (h1 : agV S1 v v') (h2 : agF S2 f f') (q1 : S1.contains 12 = false) (q2 : [7, 8, 9, 10, 11].all (fun j => !S2.contains j) = true) : MD v' f' D := by
  have q3 : ∀ j ∈ [7, 8, 9, 10, 11], S2.contains j = false := fun j hj => by
    have := List.all_eq_true.mp q2 j hj
    simpa using this
  unfold MD
  rw [h1.at 12 q1, h2.at 7 (q3 7 (by decide)), h2.at 8 (q3 8 (by decide)), h2.at 9 (q3 9 (by decide)), h2.at 10 (q3 10 (by decide)), h2.at 11 (q3 11 (by decide))]
  exact h
theorem ML.ag {S1 S2 : List Nat} {v v' : Nat → Int32} {f f' : Nat → Nat → Int32} {L : List Cr} (h : ML v f L) (h1 : agV S1 v v') (h2 : agF S2 f f') (q1 : S1.contains 15 = false) (q2 : S2.contains 13 = false) (q3 : S2.contains 14 = false) : ML v' f' L := by
  unfold ML
  rw [h1.at 15 q1, h2.at 13 q2, h2.at 14 q3]
  exact h
theorem tl_m4611686018427387904 : (-4611686018427387904 : Int64).toInt = (-4611686018427387904 : Int) := by decide
theorem tl_m1 : (-1 : Int64).toInt = (-1 : Int) := by decide
theorem tl_0 : (0 : Int64).toInt = (0 : Int) := by decide
theorem tl_1 : (1 : Int64).toInt = (1 : Int) := by decide
theorem tl_2 : (2 : Int64).toInt = (2 : Int) := by decide
theorem tl_3 : (3 : Int64).toInt = (3 : Int) := by decide
theorem tl_4 : (4 : Int64).toInt = (4 : Int) := by decide
theorem tl_5 : (5 : Int64).toInt = (5 : Int) := by decide
theorem tl_9 : (9 : Int64).toInt = (9 : Int) := by decide
theorem tl_10 : (10 : Int64).toInt = (10 : Int) := by decide
theorem tl_20 : (20 : Int64).toInt = (20 : Int) := by decide
theorem tl_40 : (40 : Int64).toInt = (40 : Int) := by decide
theorem tl_43 : (43 : Int64).toInt = (43 : Int) := by decide
theorem tl_48 : (48 : Int64).toInt = (48 : Int) := by decide
theorem tl_57 : (57 : Int64).toInt = (57 : Int) := by decide
theorem tl_60 : (60 : Int64).toInt = (60 : Int) := by decide
theorem tl_97 : (97 : Int64).toInt = (97 : Int) := by decide
theorem tl_99 : (99 : Int64).toInt = (99 : Int) := by decide
theorem tl_122 : (122 : Int64).toInt = (122 : Int) := by decide
theorem tl_255 : (255 : Int64).toInt = (255 : Int) := by decide
section S71
variable {E : GE} {M : GM} {d mc ms : Nat} {A : Nat → Prop} {Q : Option Value → va_W → Prop} {k n pc : Nat} {ls : List (Option Value)} {st : List Value} {b : Nat → Nat} {v : Nat → Int32} {t : Int64} {f : Nat → Nat → Int32} {D : Dg} {L : List Cr}
set_option maxRecDepth 20000 in
theorem c_X8_isDog (hN : g_N E) (x : Int32) : g_Ci E mX8_isDog (d + 2) [.ref (b 0), .int x] (mW E b v t f) (fun z w => z = g_bi (0 ≤ x.toInt ∧ x.toInt ≤ (v 12 - 1).toInt) ∧ w = mW E b v t f) := by
  refine g_enterI hN.1 (by decide) [some (.ref (b 0)), some (.int x)] rfl (Nat.le_of_ble_eq_true rfl) (fun A Q hQ => ?_)
  have tc1 := tc_1
  refine g_iload1 dX8_isDog_0 (g_i2l dX8_isDog_1 (g_lconst kl_0 dX8_isDog_2 (g_aload0 dX8_isDog_3 (g_mget fl_X8_103 mg_12 dX8_isDog_4 (g_iconst ki_1 dX8_isDog_7 (g_isub dX8_isDog_8 (g_i2l dX8_isDog_9 (r_X8_in hN mv_X8_106 dX8_isDog_10 (Nat.le_of_ble_eq_true rfl) (Nat.le_of_ble_eq_true rfl) rfl (g_zret rfl (by first | exact g_bi01 _ | exact Or.inl rfl | exact Or.inr rfl) dX8_isDog_13 (Nat.le_of_ble_eq_true rfl) (Nat.le_of_ble_eq_true rfl) ?q13)))))))))
  exact hQ _ _ ⟨by simp only [Int32.toInt_toInt64, tl_0], rfl⟩
theorem r_X8_isDog (hN : g_N E) {idx : Nat} {x : Int32} (hm : MV M.1.cls idx mX8_isDog 1) (hd : decode M.2.1 pc = .ok (.invokevirtual idx, 3)) (hk : k ≤ mc) (hn : n ≤ ms) (hr : Nat.ble (st.map fun v => v.category).sum 8 = true) (kk : G E M (d + 3) mc ms A Q k n (pc + 3) ls (.int (g_bi (0 ≤ x.toInt ∧ x.toInt ≤ (v 12 - 1).toInt)) :: st) (mW E b v t f)) : G E M (d + 3) mc ms A Q k n pc ls (.int x :: .ref (b 0) :: st) (mW E b v t f) :=
  g_V1i hd hm 0 rfl rfl hr hk hn (c_X8_isDog hN x) (fun r_ w_ hq => by obtain ⟨h1_, h2_⟩ := hq; rw [h1_, h2_]; exact kk)
theorem MD.n1 (h : MD v f D) (hD : D.1.length ≤ 6) : (v 12).toInt = D.1.length ∧ (v 12 - 1).toInt = (D.1.length : Int) - 1 ∧ (v 12 - 2).toInt = (D.1.length : Int) - 2 := by
  have e := t_nI (n := D.1.length) (by omega)
  rw [h.1]
  refine ⟨e, ?_, ?_⟩
  · rw [t_sub (by rw [tc_1]; omega) (by rw [tc_1]; omega), e, tc_1]
  · rw [t_sub (by rw [tc_2]; omega) (by rw [tc_2]; omega), e, tc_2]
theorem idx_lt {l : List Nat} {i x y : Nat} (hi : i < l.idxOf x) (hy : l[i]? = some y) : y ≠ x := by
  intro q
  subst q
  have := List.not_of_lt_findIdx (p := (· == y)) (xs := l) hi
  have h2 := (List.getElem?_eq_some_iff.mp hy)
  obtain ⟨h3, h4⟩ := h2
  simp_all
set_option maxRecDepth 20000 in
set_option maxHeartbeats 1000000 in
theorem c_X8_placeOf (hN : g_N E) (hD : dgOK D) (h : MD v f D) {x : Nat} (hx : x ∈ D.2.2.2.2) : g_Ci E mX8_placeOf (d + 1) [.ref (b 0), .int (nI x)] (mW E b v t f) (fun z w => z = nI (plN D x) ∧ w = mW E b v t f) := by
  obtain ⟨hn, l1, l2, l3, l4, b1, b2, b3, b4, b5, hnd⟩ := id hD
  refine g_enterI hN.1 (by decide) [some (.ref (b 0)), some (.int (nI x)), none] rfl (Nat.le_of_ble_eq_true rfl) (fun A Q hQ => ?_)
  have tc0 := tc_0; have tc1 := tc_1
  have hxl := b5 x hx
  have hlt := List.idxOf_lt_length_of_mem hx
  have loop : ∀ u i, i + u = D.2.2.2.2.idxOf x → G E mX8_placeOf (d + 1) 0 0 A Q 0 0 2 [some (.ref (b 0)), some (.int (nI x)), some (.int (nI i))] [] (mW E b v t f) := by
    intro u
    induction u with
    | zero =>
      intro i hi
      have e2 := t_nI (n := i) (by omega)
      have hix : i = D.2.2.2.2.idxOf x := by omega
      have hget : D.2.2.2.2[i]? = some x := by rw [hix, List.getElem?_eq_getElem hlt, List.getElem_idxOf]
      refine g_aload0 dX8_placeOf_2 (g_mget fl_X8_35 mg_11 dX8_placeOf_3 (g_iload2 dX8_placeOf_6 (g_mia ma_11 dX8_placeOf_7 ?b7 (g_iload1 dX8_placeOf_8 (g_icmp_eq (tgt := 18) dX8_placeOf_9 (by decide) (fun h9 => g_iload2 dX8_placeOf_18 (g_iret rfl dX8_placeOf_19 (Nat.le_of_ble_eq_true rfl) (Nat.le_of_ble_eq_true rfl) ?q19)) (fun h9 => ?s12))))))
      case b7 => omega
      case s12 => rw [e2, Int.toNat_natCast, h.2.2.2.2.2.at hget] at h9; exact absurd rfl h9
      case q19 => exact hQ _ _ ⟨by rw [hix]; rfl, rfl⟩
    | succ u ih =>
      intro i hi
      have e2 := t_nI (n := i) (by omega)
      obtain ⟨y, hy⟩ : ∃ y, D.2.2.2.2[i]? = some y := ⟨D.2.2.2.2[i], List.getElem?_eq_getElem (by omega)⟩
      have hyl := b5 y (List.mem_of_getElem? hy)
      have hne : y ≠ x := idx_lt (by omega) hy
      refine g_aload0 dX8_placeOf_2 (g_mget fl_X8_35 mg_11 dX8_placeOf_3 (g_iload2 dX8_placeOf_6 (g_mia ma_11 dX8_placeOf_7 ?b7_2 (g_iload1 dX8_placeOf_8 (g_icmp_eq (tgt := 18) dX8_placeOf_9 (by decide) (fun h9 => g_iload2 dX8_placeOf_18 (g_iret rfl dX8_placeOf_19 (Nat.le_of_ble_eq_true rfl) (Nat.le_of_ble_eq_true rfl) ?q19_2)) (fun h9 => g_iinc2 ki_1 dX8_placeOf_12 rfl rfl (g_goto (tgt := 2) dX8_placeOf_15 (by decide) (?s2_2))))))))
      case b7_2 => omega
      case q19_2 =>
        rw [e2, Int.toNat_natCast, h.2.2.2.2.2.at hy] at h9
        exact absurd ((nI_inj (by omega) (by omega)).mp (Int32.toInt_inj.mp h9)) hne
      case s2_2 =>
        rw [nI_1]
        exact ih (i + 1) (by omega)
  refine g_iconst ki_0 dX8_placeOf_0 (g_istore2 dX8_placeOf_1 rfl rfl (?s2_3))
  exact loop _ 0 (Nat.zero_add _)
set_option maxRecDepth 20000 in
set_option maxHeartbeats 1000000 in
theorem c_X8_pulls (hN : g_N E) (hD : dgOK D) (h : MD v f D) {kd x q pa nu : Nat} (hk : D.1[x]? = some kd) (hp : D.2.1[x]? = some pa) (hu : D.2.2.1[x]? = some nu) (hq6 : q ≤ 6) : g_Ci E mX8_pulls (d + 1) [.ref (b 0), .int (nI x), .int (nI q)] (mW E b v t f) (fun z w => z.toInt = max 0 (pullsI kd pa nu q) ∧ w = mW E b v t f) := by
  obtain ⟨hn, l1, l2, l3, l4, b1, b2, b3, b4, b5, hnd⟩ := id hD
  refine g_enterI hN.1 (by decide) [some (.ref (b 0)), some (.int (nI x)), some (.int (nI q)), none, none, none] rfl (Nat.le_of_ble_eq_true rfl) (fun A Q hQ => ?_)
  have tc0 := tc_0; have tc1 := tc_1; have tc2 := tc_2; have tc3 := tc_3; have tc4 := tc_4; have tc5 := tc_5
  have hx := (List.getElem?_eq_some_iff.mp hp).1
  have r0 := b1 kd (List.mem_of_getElem? hk)
  have ex := t_nI (n := x) (by omega)
  have ek := t_nI (n := kd) (by omega)
  have eq := t_nI (n := q) (by omega)
  have r1 := b2 pa (List.mem_of_getElem? hp)
  have r2 := b3 nu (List.mem_of_getElem? hu)
  have ep := t_nI (n := pa) (by omega)
  have eu := t_nI (n := nu) (by omega)
  have e2 := div2_nI (x := pa) (by omega)
  have es : (nI pa + nI nu).toInt = pa + nu := by rw [t_add (by omega) (by omega), ep, eu]
  have e3 : (nI pa / 2 - 2).toInt = ((pa / 2 : Nat) : Int) - 2 := by rw [t_sub (by omega) (by omega)]; omega
  have e4 : (nI pa + nI nu + nI q).toInt = pa + nu + q := by rw [t_add (by omega) (by omega)]; omega
  have e5 : (2 * (nI pa + nI nu) - nI q).toInt = 2 * (pa + nu) - q := by
    have e3 : (2 * (nI pa + nI nu)).toInt = 2 * (pa + nu) := by rw [t_mul (by rw [es, tc2]; omega) (by rw [es, tc2]; omega), es, tc2]
    rw [t_sub (by omega) (by omega)]; omega
  have p0 := h.2.1.at hk
  have p1 := h.2.2.1.at hp
  have p2 := h.2.2.2.1.at hu
  have fin : ∀ z : Int32, z.toInt = pullsI kd pa nu q → G E mX8_pulls (d + 1) 0 0 A Q 0 0 95 [some (.ref (b 0)), some (.int (nI x)), some (.int (nI q)), some (.int (nI kd)), some (.int (nI pa + nI nu)), some (.int z)] [] (mW E b v t f) := by
    intro z hz
    refine g_iload5 dX8_pulls_95 (g_if_ge (tgt := 104) dX8_pulls_97 (by decide) (fun h97 => g_iload5 dX8_pulls_104 (g_iret rfl dX8_pulls_106 (Nat.le_of_ble_eq_true rfl) (Nat.le_of_ble_eq_true rfl) ?q106)) (fun h97 => g_iconst ki_0 dX8_pulls_100 (g_goto (tgt := 106) dX8_pulls_101 (by decide) (g_iret rfl dX8_pulls_106 (Nat.le_of_ble_eq_true rfl) (Nat.le_of_ble_eq_true rfl) ?q106'))))
    case q106 => exact hQ _ _ ⟨by omega, rfl⟩
    case q106' => exact hQ _ _ ⟨by omega, rfl⟩
  refine g_aload0 dX8_pulls_0 (g_mget fl_X8_23 mg_7 dX8_pulls_1 (g_iload1 dX8_pulls_4 (g_mia ma_7 dX8_pulls_5 ?b5_2 (g_istore3 dX8_pulls_6 rfl rfl (g_aload0 dX8_pulls_7 (g_mget fl_X8_26 mg_8 dX8_pulls_8 (g_iload1 dX8_pulls_11 (g_mia ma_8 dX8_pulls_12 ?b12_2 (g_aload0 dX8_pulls_13 (g_mget fl_X8_29 mg_9 dX8_pulls_14 (g_iload1 dX8_pulls_17 (g_mia ma_9 dX8_pulls_18 ?b18_2 (g_iadd dX8_pulls_19 (g_istore4 dX8_pulls_20 rfl rfl (g_aload0 dX8_pulls_22 (g_mget fl_X8_26 mg_8 dX8_pulls_23 (g_iload1 dX8_pulls_26 (g_mia ma_8 dX8_pulls_27 ?b27_2 (g_istore5 dX8_pulls_28 rfl rfl (?s30_2))))))))))))))))))))
  case b5_2 => omega
  case b12_2 => omega
  case b18_2 => omega
  case b27_2 => omega
  rw [ex, Int.toNat_natCast, p0, p1, p2]
  refine g_iload3 dX8_pulls_30 (g_iconst ki_1 dX8_pulls_31 (g_icmp_ne (tgt := 39) dX8_pulls_32 (by decide) (fun h32 => g_iload3 dX8_pulls_39 (g_iconst ki_3 dX8_pulls_40 (g_icmp_ne (tgt := 50) dX8_pulls_41 (by decide) (fun h41 => g_iload3 dX8_pulls_50 (g_iconst ki_5 dX8_pulls_51 (g_icmp_ne (tgt := 63) dX8_pulls_52 (by decide) (fun h52 => g_iload3 dX8_pulls_63 (g_iconst ki_2 dX8_pulls_64 (g_icmp_ne (tgt := 78) dX8_pulls_65 (by decide) (fun h65 => g_iload3 dX8_pulls_78 (g_iconst ki_4 dX8_pulls_79 (g_icmp_ne (tgt := 95) dX8_pulls_80 (by decide) (fun h80 => ?s95_3) (fun h80 => g_aload0 dX8_pulls_83 (g_mget fl_X8_26 mg_8 dX8_pulls_84 (g_iload1 dX8_pulls_87 (g_mia ma_8 dX8_pulls_88 ?b88_3 (g_iconst ki_2 dX8_pulls_89 (g_idiv dX8_pulls_90 ?z90_3 (g_iconst ki_2 dX8_pulls_91 (g_isub dX8_pulls_92 (g_istore5 dX8_pulls_93 rfl rfl (?s95_3'))))))))))))) (fun h65 => g_aload0 dX8_pulls_68 (g_mget fl_X8_26 mg_8 dX8_pulls_69 (g_iload1 dX8_pulls_72 (g_mia ma_8 dX8_pulls_73 ?b73_3 (g_iconst ki_2 dX8_pulls_74 (g_idiv dX8_pulls_75 ?z75_3 (g_istore5 dX8_pulls_76 rfl rfl (g_iload3 dX8_pulls_78 (g_iconst ki_4 dX8_pulls_79 (g_icmp_ne (tgt := 95) dX8_pulls_80 (by decide) (fun h80 => ?s95_3'') (fun h80 => g_aload0 dX8_pulls_83 (g_mget fl_X8_26 mg_8 dX8_pulls_84 (g_iload1 dX8_pulls_87 (g_mia ma_8 dX8_pulls_88 ?b88_3' (g_iconst ki_2 dX8_pulls_89 (g_idiv dX8_pulls_90 ?z90_3' (g_iconst ki_2 dX8_pulls_91 (g_isub dX8_pulls_92 (g_istore5 dX8_pulls_93 rfl rfl (?s95_3'''))))))))))))))))))))))) (fun h52 => g_iconst ki_2 dX8_pulls_55 (g_iload4 dX8_pulls_56 (g_imul dX8_pulls_58 (g_iload2 dX8_pulls_59 (g_isub dX8_pulls_60 (g_istore5 dX8_pulls_61 rfl rfl (g_iload3 dX8_pulls_63 (g_iconst ki_2 dX8_pulls_64 (g_icmp_ne (tgt := 78) dX8_pulls_65 (by decide) (fun h65 => g_iload3 dX8_pulls_78 (g_iconst ki_4 dX8_pulls_79 (g_icmp_ne (tgt := 95) dX8_pulls_80 (by decide) (fun h80 => ?s95_3'''') (fun h80 => g_aload0 dX8_pulls_83 (g_mget fl_X8_26 mg_8 dX8_pulls_84 (g_iload1 dX8_pulls_87 (g_mia ma_8 dX8_pulls_88 ?b88_3'' (g_iconst ki_2 dX8_pulls_89 (g_idiv dX8_pulls_90 ?z90_3'' (g_iconst ki_2 dX8_pulls_91 (g_isub dX8_pulls_92 (g_istore5 dX8_pulls_93 rfl rfl (?s95_3'''''))))))))))))) (fun h65 => g_aload0 dX8_pulls_68 (g_mget fl_X8_26 mg_8 dX8_pulls_69 (g_iload1 dX8_pulls_72 (g_mia ma_8 dX8_pulls_73 ?b73_3' (g_iconst ki_2 dX8_pulls_74 (g_idiv dX8_pulls_75 ?z75_3' (g_istore5 dX8_pulls_76 rfl rfl (g_iload3 dX8_pulls_78 (g_iconst ki_4 dX8_pulls_79 (g_icmp_ne (tgt := 95) dX8_pulls_80 (by decide) (fun h80 => ?s95_3'''''') (fun h80 => g_aload0 dX8_pulls_83 (g_mget fl_X8_26 mg_8 dX8_pulls_84 (g_iload1 dX8_pulls_87 (g_mia ma_8 dX8_pulls_88 ?b88_3''' (g_iconst ki_2 dX8_pulls_89 (g_idiv dX8_pulls_90 ?z90_3''' (g_iconst ki_2 dX8_pulls_91 (g_isub dX8_pulls_92 (g_istore5 dX8_pulls_93 rfl rfl (?s95_3''''''')))))))))))))))))))))))))))))))) (fun h41 => g_iload4 dX8_pulls_44 (g_iload2 dX8_pulls_46 (g_iadd dX8_pulls_47 (g_istore5 dX8_pulls_48 rfl rfl (g_iload3 dX8_pulls_50 (g_iconst ki_5 dX8_pulls_51 (g_icmp_ne (tgt := 63) dX8_pulls_52 (by decide) (fun h52 => g_iload3 dX8_pulls_63 (g_iconst ki_2 dX8_pulls_64 (g_icmp_ne (tgt := 78) dX8_pulls_65 (by decide) (fun h65 => g_iload3 dX8_pulls_78 (g_iconst ki_4 dX8_pulls_79 (g_icmp_ne (tgt := 95) dX8_pulls_80 (by decide) (fun h80 => ?s95_3'''''''') (fun h80 => g_aload0 dX8_pulls_83 (g_mget fl_X8_26 mg_8 dX8_pulls_84 (g_iload1 dX8_pulls_87 (g_mia ma_8 dX8_pulls_88 ?b88_3'''' (g_iconst ki_2 dX8_pulls_89 (g_idiv dX8_pulls_90 ?z90_3'''' (g_iconst ki_2 dX8_pulls_91 (g_isub dX8_pulls_92 (g_istore5 dX8_pulls_93 rfl rfl (?s95_3'''''''''))))))))))))) (fun h65 => g_aload0 dX8_pulls_68 (g_mget fl_X8_26 mg_8 dX8_pulls_69 (g_iload1 dX8_pulls_72 (g_mia ma_8 dX8_pulls_73 ?b73_3'' (g_iconst ki_2 dX8_pulls_74 (g_idiv dX8_pulls_75 ?z75_3'' (g_istore5 dX8_pulls_76 rfl rfl (g_iload3 dX8_pulls_78 (g_iconst ki_4 dX8_pulls_79 (g_icmp_ne (tgt := 95) dX8_pulls_80 (by decide) (fun h80 => ?s95_3'''''''''') (fun h80 => g_aload0 dX8_pulls_83 (g_mget fl_X8_26 mg_8 dX8_pulls_84 (g_iload1 dX8_pulls_87 (g_mia ma_8 dX8_pulls_88 ?b88_3''''' (g_iconst ki_2 dX8_pulls_89 (g_idiv dX8_pulls_90 ?z90_3''''' (g_iconst ki_2 dX8_pulls_91 (g_isub dX8_pulls_92 (g_istore5 dX8_pulls_93 rfl rfl (?s95_3'''''''''''))))))))))))))))))))))) (fun h52 => g_iconst ki_2 dX8_pulls_55 (g_iload4 dX8_pulls_56 (g_imul dX8_pulls_58 (g_iload2 dX8_pulls_59 (g_isub dX8_pulls_60 (g_istore5 dX8_pulls_61 rfl rfl (g_iload3 dX8_pulls_63 (g_iconst ki_2 dX8_pulls_64 (g_icmp_ne (tgt := 78) dX8_pulls_65 (by decide) (fun h65 => g_iload3 dX8_pulls_78 (g_iconst ki_4 dX8_pulls_79 (g_icmp_ne (tgt := 95) dX8_pulls_80 (by decide) (fun h80 => ?s95_3'''''''''''') (fun h80 => g_aload0 dX8_pulls_83 (g_mget fl_X8_26 mg_8 dX8_pulls_84 (g_iload1 dX8_pulls_87 (g_mia ma_8 dX8_pulls_88 ?b88_3'''''' (g_iconst ki_2 dX8_pulls_89 (g_idiv dX8_pulls_90 ?z90_3'''''' (g_iconst ki_2 dX8_pulls_91 (g_isub dX8_pulls_92 (g_istore5 dX8_pulls_93 rfl rfl (?s95_3'''''''''''''))))))))))))) (fun h65 => g_aload0 dX8_pulls_68 (g_mget fl_X8_26 mg_8 dX8_pulls_69 (g_iload1 dX8_pulls_72 (g_mia ma_8 dX8_pulls_73 ?b73_3''' (g_iconst ki_2 dX8_pulls_74 (g_idiv dX8_pulls_75 ?z75_3''' (g_istore5 dX8_pulls_76 rfl rfl (g_iload3 dX8_pulls_78 (g_iconst ki_4 dX8_pulls_79 (g_icmp_ne (tgt := 95) dX8_pulls_80 (by decide) (fun h80 => ?s95_3'''''''''''''') (fun h80 => g_aload0 dX8_pulls_83 (g_mget fl_X8_26 mg_8 dX8_pulls_84 (g_iload1 dX8_pulls_87 (g_mia ma_8 dX8_pulls_88 ?b88_3''''''' (g_iconst ki_2 dX8_pulls_89 (g_idiv dX8_pulls_90 ?z90_3''''''' (g_iconst ki_2 dX8_pulls_91 (g_isub dX8_pulls_92 (g_istore5 dX8_pulls_93 rfl rfl (?s95_3'''''''''''''''))))))))))))))))))))))))))))))))))))))) (fun h32 => g_iload4 dX8_pulls_35 (g_istore5 dX8_pulls_37 rfl rfl (g_iload3 dX8_pulls_39 (g_iconst ki_3 dX8_pulls_40 (g_icmp_ne (tgt := 50) dX8_pulls_41 (by decide) (fun h41 => g_iload3 dX8_pulls_50 (g_iconst ki_5 dX8_pulls_51 (g_icmp_ne (tgt := 63) dX8_pulls_52 (by decide) (fun h52 => g_iload3 dX8_pulls_63 (g_iconst ki_2 dX8_pulls_64 (g_icmp_ne (tgt := 78) dX8_pulls_65 (by decide) (fun h65 => g_iload3 dX8_pulls_78 (g_iconst ki_4 dX8_pulls_79 (g_icmp_ne (tgt := 95) dX8_pulls_80 (by decide) (fun h80 => ?s95_3'''''''''''''''') (fun h80 => g_aload0 dX8_pulls_83 (g_mget fl_X8_26 mg_8 dX8_pulls_84 (g_iload1 dX8_pulls_87 (g_mia ma_8 dX8_pulls_88 ?b88_3'''''''' (g_iconst ki_2 dX8_pulls_89 (g_idiv dX8_pulls_90 ?z90_3'''''''' (g_iconst ki_2 dX8_pulls_91 (g_isub dX8_pulls_92 (g_istore5 dX8_pulls_93 rfl rfl (?s95_3'''''''''''''''''))))))))))))) (fun h65 => g_aload0 dX8_pulls_68 (g_mget fl_X8_26 mg_8 dX8_pulls_69 (g_iload1 dX8_pulls_72 (g_mia ma_8 dX8_pulls_73 ?b73_3'''' (g_iconst ki_2 dX8_pulls_74 (g_idiv dX8_pulls_75 ?z75_3'''' (g_istore5 dX8_pulls_76 rfl rfl (g_iload3 dX8_pulls_78 (g_iconst ki_4 dX8_pulls_79 (g_icmp_ne (tgt := 95) dX8_pulls_80 (by decide) (fun h80 => ?s95_3'''''''''''''''''') (fun h80 => g_aload0 dX8_pulls_83 (g_mget fl_X8_26 mg_8 dX8_pulls_84 (g_iload1 dX8_pulls_87 (g_mia ma_8 dX8_pulls_88 ?b88_3''''''''' (g_iconst ki_2 dX8_pulls_89 (g_idiv dX8_pulls_90 ?z90_3''''''''' (g_iconst ki_2 dX8_pulls_91 (g_isub dX8_pulls_92 (g_istore5 dX8_pulls_93 rfl rfl (?s95_3'''''''''''''''''''))))))))))))))))))))))) (fun h52 => g_iconst ki_2 dX8_pulls_55 (g_iload4 dX8_pulls_56 (g_imul dX8_pulls_58 (g_iload2 dX8_pulls_59 (g_isub dX8_pulls_60 (g_istore5 dX8_pulls_61 rfl rfl (g_iload3 dX8_pulls_63 (g_iconst ki_2 dX8_pulls_64 (g_icmp_ne (tgt := 78) dX8_pulls_65 (by decide) (fun h65 => g_iload3 dX8_pulls_78 (g_iconst ki_4 dX8_pulls_79 (g_icmp_ne (tgt := 95) dX8_pulls_80 (by decide) (fun h80 => ?s95_3'''''''''''''''''''') (fun h80 => g_aload0 dX8_pulls_83 (g_mget fl_X8_26 mg_8 dX8_pulls_84 (g_iload1 dX8_pulls_87 (g_mia ma_8 dX8_pulls_88 ?b88_3'''''''''' (g_iconst ki_2 dX8_pulls_89 (g_idiv dX8_pulls_90 ?z90_3'''''''''' (g_iconst ki_2 dX8_pulls_91 (g_isub dX8_pulls_92 (g_istore5 dX8_pulls_93 rfl rfl (?s95_3'''''''''''''''''''''))))))))))))) (fun h65 => g_aload0 dX8_pulls_68 (g_mget fl_X8_26 mg_8 dX8_pulls_69 (g_iload1 dX8_pulls_72 (g_mia ma_8 dX8_pulls_73 ?b73_3''''' (g_iconst ki_2 dX8_pulls_74 (g_idiv dX8_pulls_75 ?z75_3''''' (g_istore5 dX8_pulls_76 rfl rfl (g_iload3 dX8_pulls_78 (g_iconst ki_4 dX8_pulls_79 (g_icmp_ne (tgt := 95) dX8_pulls_80 (by decide) (fun h80 => ?s95_3'''''''''''''''''''''') (fun h80 => g_aload0 dX8_pulls_83 (g_mget fl_X8_26 mg_8 dX8_pulls_84 (g_iload1 dX8_pulls_87 (g_mia ma_8 dX8_pulls_88 ?b88_3''''''''''' (g_iconst ki_2 dX8_pulls_89 (g_idiv dX8_pulls_90 ?z90_3''''''''''' (g_iconst ki_2 dX8_pulls_91 (g_isub dX8_pulls_92 (g_istore5 dX8_pulls_93 rfl rfl (?s95_3''''''''''''''''''''''')))))))))))))))))))))))))))))))) (fun h41 => g_iload4 dX8_pulls_44 (g_iload2 dX8_pulls_46 (g_iadd dX8_pulls_47 (g_istore5 dX8_pulls_48 rfl rfl (g_iload3 dX8_pulls_50 (g_iconst ki_5 dX8_pulls_51 (g_icmp_ne (tgt := 63) dX8_pulls_52 (by decide) (fun h52 => g_iload3 dX8_pulls_63 (g_iconst ki_2 dX8_pulls_64 (g_icmp_ne (tgt := 78) dX8_pulls_65 (by decide) (fun h65 => g_iload3 dX8_pulls_78 (g_iconst ki_4 dX8_pulls_79 (g_icmp_ne (tgt := 95) dX8_pulls_80 (by decide) (fun h80 => ?s95_3'''''''''''''''''''''''') (fun h80 => g_aload0 dX8_pulls_83 (g_mget fl_X8_26 mg_8 dX8_pulls_84 (g_iload1 dX8_pulls_87 (g_mia ma_8 dX8_pulls_88 ?b88_3'''''''''''' (g_iconst ki_2 dX8_pulls_89 (g_idiv dX8_pulls_90 ?z90_3'''''''''''' (g_iconst ki_2 dX8_pulls_91 (g_isub dX8_pulls_92 (g_istore5 dX8_pulls_93 rfl rfl (?s95_3'''''''''''''''''''''''''))))))))))))) (fun h65 => g_aload0 dX8_pulls_68 (g_mget fl_X8_26 mg_8 dX8_pulls_69 (g_iload1 dX8_pulls_72 (g_mia ma_8 dX8_pulls_73 ?b73_3'''''' (g_iconst ki_2 dX8_pulls_74 (g_idiv dX8_pulls_75 ?z75_3'''''' (g_istore5 dX8_pulls_76 rfl rfl (g_iload3 dX8_pulls_78 (g_iconst ki_4 dX8_pulls_79 (g_icmp_ne (tgt := 95) dX8_pulls_80 (by decide) (fun h80 => ?s95_3'''''''''''''''''''''''''') (fun h80 => g_aload0 dX8_pulls_83 (g_mget fl_X8_26 mg_8 dX8_pulls_84 (g_iload1 dX8_pulls_87 (g_mia ma_8 dX8_pulls_88 ?b88_3''''''''''''' (g_iconst ki_2 dX8_pulls_89 (g_idiv dX8_pulls_90 ?z90_3''''''''''''' (g_iconst ki_2 dX8_pulls_91 (g_isub dX8_pulls_92 (g_istore5 dX8_pulls_93 rfl rfl (?s95_3'''''''''''''''''''''''''''))))))))))))))))))))))) (fun h52 => g_iconst ki_2 dX8_pulls_55 (g_iload4 dX8_pulls_56 (g_imul dX8_pulls_58 (g_iload2 dX8_pulls_59 (g_isub dX8_pulls_60 (g_istore5 dX8_pulls_61 rfl rfl (g_iload3 dX8_pulls_63 (g_iconst ki_2 dX8_pulls_64 (g_icmp_ne (tgt := 78) dX8_pulls_65 (by decide) (fun h65 => g_iload3 dX8_pulls_78 (g_iconst ki_4 dX8_pulls_79 (g_icmp_ne (tgt := 95) dX8_pulls_80 (by decide) (fun h80 => ?s95_3'''''''''''''''''''''''''''') (fun h80 => g_aload0 dX8_pulls_83 (g_mget fl_X8_26 mg_8 dX8_pulls_84 (g_iload1 dX8_pulls_87 (g_mia ma_8 dX8_pulls_88 ?b88_3'''''''''''''' (g_iconst ki_2 dX8_pulls_89 (g_idiv dX8_pulls_90 ?z90_3'''''''''''''' (g_iconst ki_2 dX8_pulls_91 (g_isub dX8_pulls_92 (g_istore5 dX8_pulls_93 rfl rfl (?s95_3'''''''''''''''''''''''''''''))))))))))))) (fun h65 => g_aload0 dX8_pulls_68 (g_mget fl_X8_26 mg_8 dX8_pulls_69 (g_iload1 dX8_pulls_72 (g_mia ma_8 dX8_pulls_73 ?b73_3''''''' (g_iconst ki_2 dX8_pulls_74 (g_idiv dX8_pulls_75 ?z75_3''''''' (g_istore5 dX8_pulls_76 rfl rfl (g_iload3 dX8_pulls_78 (g_iconst ki_4 dX8_pulls_79 (g_icmp_ne (tgt := 95) dX8_pulls_80 (by decide) (fun h80 => ?s95_3'''''''''''''''''''''''''''''') (fun h80 => g_aload0 dX8_pulls_83 (g_mget fl_X8_26 mg_8 dX8_pulls_84 (g_iload1 dX8_pulls_87 (g_mia ma_8 dX8_pulls_88 ?b88_3''''''''''''''' (g_iconst ki_2 dX8_pulls_89 (g_idiv dX8_pulls_90 ?z90_3''''''''''''''' (g_iconst ki_2 dX8_pulls_91 (g_isub dX8_pulls_92 (g_istore5 dX8_pulls_93 rfl rfl (?s95_3''''''''''''''''''''''''''''''')))))))))))))))))))))))))))))))))))))))))))
  all_goals try (rw [ex, Int.toNat_natCast, p1])
  all_goals try omega
  case z75_3 => decide
  case z90_3 => decide
  all_goals refine fin _ ?_
  all_goals unfold pullsI
  all_goals repeat (first | rw [if_pos (by omega)] | rw [if_neg (by omega)])
  all_goals assumption
set_option maxRecDepth 20000 in
set_option maxHeartbeats 1000000 in
theorem c_X8_right (hN : g_N E) (hD : dgOK D) (h : MD v f D) {kd x q s nu : Nat} (hk : D.1[x]? = some kd) (hu : D.2.2.1[x]? = some nu) (hq6 : q ≤ 6) (hs6 : s ≤ 6) : g_Ci E mX8_right (d + 1) [.ref (b 0), .int (nI x), .int (nI q), .int (nI s)] (mW E b v t f) (fun z w => z = g_bi (rightB kd nu q s = true) ∧ w = mW E b v t f) := by
  obtain ⟨hn, l1, l2, l3, l4, b1, b2, b3, b4, b5, hnd⟩ := id hD
  refine g_enterI hN.1 (by decide) [some (.ref (b 0)), some (.int (nI x)), some (.int (nI q)), some (.int (nI s)), none, none] rfl (Nat.le_of_ble_eq_true rfl) (fun A Q hQ => ?_)
  have tc0 := tc_0; have tc1 := tc_1; have tc2 := tc_2; have tc3 := tc_3; have tc4 := tc_4; have tc5 := tc_5
  have hx := (List.getElem?_eq_some_iff.mp hk).1
  have ex := t_nI (n := x) (by omega)
  have eq := t_nI (n := q) (by omega)
  have es := t_nI (n := s) (by omega)
  have r1 := b1 kd (List.mem_of_getElem? hk)
  have r2 := b3 nu (List.mem_of_getElem? hu)
  have ek := t_nI (n := kd) (by omega)
  have eu := t_nI (n := nu) (by omega)
  have p1 := h.2.1.at hk
  have p2 := h.2.2.2.1.at hu
  have e2 : (nI q - nI q / 2 * 2).toInt = ((q % 2 : Nat) : Int) := by
    rw [show (2 : Int32) = nI 2 from rfl, pk_rem (by omega) (by omega) (by omega), t_nI (by omega)]
  have eq1 : (nI q + 1).toInt = (q : Int) + 1 := by rw [nI_1, t_nI (by omega)]; omega
  have eq0 : (nI q + 0).toInt = (q : Int) := by rw [Int32.add_zero]; exact eq
  have fT : rightP kd nu q s → g_bi (rightB kd nu q s = true) = 1 := fun hh => g_bi1 (rightB_t.mpr hh)
  have fF : ¬ rightP kd nu q s → g_bi (rightB kd nu q s = true) = 0 := fun hh => g_bi0 (fun hh2 => hh (rightB_t.mp hh2))
  have rest : ∀ z, z = g_bi (s ≤ q + acN nu) → kd = 1 ∨ kd = 5 → G E mX8_right (d + 1) 0 0 A Q 0 0 85 [some (.ref (b 0)), some (.int (nI x)), some (.int (nI q)), some (.int (nI s)), some (.int (nI kd)), none] [.int z] (mW E b v t f) := by
    intro z hz hkd
    have zb := g_biz (p := s ≤ q + acN nu)
    subst hz
    refine g_istore5 dX8_right_85 rfl rfl (g_iload4 dX8_right_87 (g_iconst ki_5 dX8_right_89 (g_icmp_ne (tgt := 112) dX8_right_90 (by decide) (fun h90 => g_iload5 dX8_right_112 (g_zret rfl (by first | exact g_bi01 _ | exact Or.inl rfl | exact Or.inr rfl) dX8_right_114 (Nat.le_of_ble_eq_true rfl) (Nat.le_of_ble_eq_true rfl) ?q114)) (fun h90 => g_iload2 dX8_right_93 (g_iconst ki_2 dX8_right_94 (g_irem dX8_right_95 ?z95 (g_if_ne (tgt := 112) dX8_right_96 (by decide) (fun h96 => g_iload5 dX8_right_112 (g_zret rfl (by first | exact g_bi01 _ | exact Or.inl rfl | exact Or.inr rfl) dX8_right_114 (Nat.le_of_ble_eq_true rfl) (Nat.le_of_ble_eq_true rfl) ?q114')) (fun h96 => g_iload5 dX8_right_99 (g_if_ne (tgt := 108) dX8_right_101 (by decide) (fun h101 => g_iconst ki_0 dX8_right_108 (g_goto (tgt := 114) dX8_right_109 (by decide) (g_zret rfl (by first | exact g_bi01 _ | exact Or.inl rfl | exact Or.inr rfl) dX8_right_114 (Nat.le_of_ble_eq_true rfl) (Nat.le_of_ble_eq_true rfl) ?q114''))) (fun h101 => g_iconst ki_1 dX8_right_104 (g_goto (tgt := 114) dX8_right_105 (by decide) (g_zret rfl (by first | exact g_bi01 _ | exact Or.inl rfl | exact Or.inr rfl) dX8_right_114 (Nat.le_of_ble_eq_true rfl) (Nat.le_of_ble_eq_true rfl) ?q114'''))))))))))))
    case q114 =>
      refine hQ _ _ ⟨?_, rfl⟩
      have h1 : kd = 1 := by omega
      by_cases hp : s ≤ q + acN nu
      · rw [fT (by unfold rightP; rw [if_pos h1]; exact hp), g_bi1 hp]
      · rw [fF (by unfold rightP; rw [if_pos h1]; exact hp), g_bi0 hp]
    case z95 => decide
    case q114' =>
      refine hQ _ _ ⟨?_, rfl⟩
      have h1 : q % 2 = 1 := by omega
      by_cases hp : s ≤ q + acN nu
      · rw [fT (by unfold rightP; rw [if_neg (by omega), if_neg (by omega), if_neg (by omega), if_pos (by omega)]; exact Or.inr ⟨h1, hp⟩), g_bi1 hp]
      · rw [fF (by unfold rightP; rw [if_neg (by omega), if_neg (by omega), if_neg (by omega), if_pos (by omega)]; omega), g_bi0 hp]
    case q114'' =>
      exact hQ _ _ ⟨by rw [fF (by unfold rightP; rw [if_neg (by omega), if_neg (by omega), if_neg (by omega), if_pos (by omega)]; omega)], rfl⟩
    case q114''' =>
      exact hQ _ _ ⟨by rw [fT (by unfold rightP; rw [if_neg (by omega), if_neg (by omega), if_neg (by omega), if_pos (by omega)]; exact Or.inl ⟨by omega, by omega⟩)], rfl⟩
  refine g_aload0 dX8_right_0 (g_mget fl_X8_23 mg_7 dX8_right_1 (g_iload1 dX8_right_4 (g_mia ma_7 dX8_right_5 ?b5_2 (?s6_2))))
  case b5_2 => omega
  rw [ex, Int.toNat_natCast, p1]
  refine g_istore4 dX8_right_6 rfl rfl (g_iload4 dX8_right_8 (g_iconst ki_3 dX8_right_10 (g_icmp_ne (tgt := 16) dX8_right_11 (by decide) (fun h11 => g_iload4 dX8_right_16 (g_if_eq (tgt := 27) dX8_right_18 (by decide) (fun h18 => g_iload2 dX8_right_27 (g_iload3 dX8_right_28 (g_icmp_lt (tgt := 36) dX8_right_29 (by decide) (fun h29 => g_iconst ki_0 dX8_right_36 (g_zret rfl (by first | exact g_bi01 _ | exact Or.inl rfl | exact Or.inr rfl) dX8_right_37 (Nat.le_of_ble_eq_true rfl) (Nat.le_of_ble_eq_true rfl) ?q37_3)) (fun h29 => g_iconst ki_1 dX8_right_32 (g_goto (tgt := 37) dX8_right_33 (by decide) (g_zret rfl (by first | exact g_bi01 _ | exact Or.inl rfl | exact Or.inr rfl) dX8_right_37 (Nat.le_of_ble_eq_true rfl) (Nat.le_of_ble_eq_true rfl) ?q37_3')))))) (fun h18 => g_iload4 dX8_right_21 (g_iconst ki_2 dX8_right_23 (g_icmp_ne (tgt := 38) dX8_right_24 (by decide) (fun h24 => g_iload4 dX8_right_38 (g_iconst ki_4 dX8_right_40 (g_icmp_ne (tgt := 59) dX8_right_41 (by decide) (fun h41 => g_iload2 dX8_right_59 (g_aload0 dX8_right_60 (g_mget fl_X8_29 mg_9 dX8_right_61 (g_iload1 dX8_right_64 (g_mia ma_9 dX8_right_65 ?b65_3 (g_iconst ki_4 dX8_right_66 (g_icmp_le (tgt := 74) dX8_right_67 (by decide) (fun h67 => g_iconst ki_0 dX8_right_74 (g_iadd dX8_right_75 (g_iload3 dX8_right_76 (g_icmp_lt (tgt := 84) dX8_right_77 (by decide) (fun h77 => g_iconst ki_0 dX8_right_84 (?s85_3)) (fun h77 => g_iconst ki_1 dX8_right_80 (g_goto (tgt := 85) dX8_right_81 (by decide) (?s85_3'))))))) (fun h67 => g_iconst ki_1 dX8_right_70 (g_goto (tgt := 75) dX8_right_71 (by decide) (g_iadd dX8_right_75 (g_iload3 dX8_right_76 (g_icmp_lt (tgt := 84) dX8_right_77 (by decide) (fun h77 => g_iconst ki_0 dX8_right_84 (?s85_3'')) (fun h77 => g_iconst ki_1 dX8_right_80 (g_goto (tgt := 85) dX8_right_81 (by decide) (?s85_3'''))))))))))))))) (fun h41 => g_iload2 dX8_right_44 (g_iload3 dX8_right_45 (g_icmp_ge (tgt := 53) dX8_right_46 (by decide) (fun h46 => g_iconst ki_1 dX8_right_53 (g_goto (tgt := 58) dX8_right_54 (by decide) (g_zret rfl (by first | exact g_bi01 _ | exact Or.inl rfl | exact Or.inr rfl) dX8_right_58 (Nat.le_of_ble_eq_true rfl) (Nat.le_of_ble_eq_true rfl) ?q58_3))) (fun h46 => g_iload2 dX8_right_49 (g_if_ne (tgt := 57) dX8_right_50 (by decide) (fun h50 => g_iconst ki_0 dX8_right_57 (g_zret rfl (by first | exact g_bi01 _ | exact Or.inl rfl | exact Or.inr rfl) dX8_right_58 (Nat.le_of_ble_eq_true rfl) (Nat.le_of_ble_eq_true rfl) ?q58_3')) (fun h50 => g_iconst ki_1 dX8_right_53 (g_goto (tgt := 58) dX8_right_54 (by decide) (g_zret rfl (by first | exact g_bi01 _ | exact Or.inl rfl | exact Or.inr rfl) dX8_right_58 (Nat.le_of_ble_eq_true rfl) (Nat.le_of_ble_eq_true rfl) ?q58_3''))))))))))) (fun h24 => g_iload2 dX8_right_27 (g_iload3 dX8_right_28 (g_icmp_lt (tgt := 36) dX8_right_29 (by decide) (fun h29 => g_iconst ki_0 dX8_right_36 (g_zret rfl (by first | exact g_bi01 _ | exact Or.inl rfl | exact Or.inr rfl) dX8_right_37 (Nat.le_of_ble_eq_true rfl) (Nat.le_of_ble_eq_true rfl) ?q37_3'')) (fun h29 => g_iconst ki_1 dX8_right_32 (g_goto (tgt := 37) dX8_right_33 (by decide) (g_zret rfl (by first | exact g_bi01 _ | exact Or.inl rfl | exact Or.inr rfl) dX8_right_37 (Nat.le_of_ble_eq_true rfl) (Nat.le_of_ble_eq_true rfl) ?q37_3'''))))))))))) (fun h11 => g_iconst ki_0 dX8_right_14 (g_zret rfl (by first | exact g_bi01 _ | exact Or.inl rfl | exact Or.inr rfl) dX8_right_15 (Nat.le_of_ble_eq_true rfl) (Nat.le_of_ble_eq_true rfl) ?q15_3)))))
  all_goals try rw [ex, Int.toNat_natCast, p2] at h67
  all_goals try (first | omega | decide)
  all_goals try (refine rest _ ?_ (by omega); have := acN_1 (nb := nu); have := acN_0 (nb := nu); first | (rw [g_bi1 (by omega)]; done) | (rw [g_bi0 (by omega)]; done))
  all_goals refine hQ _ _ ⟨?_, rfl⟩
  all_goals first | (rw [fT (by unfold rightP; (repeat (first | rw [if_pos (by omega)] | rw [if_neg (by omega)])); first | trivial | omega)]; done) | (rw [fF (by unfold rightP; (repeat (first | rw [if_pos (by omega)] | rw [if_neg (by omega)])); first | exact not_false | omega)]; done)
end S71
