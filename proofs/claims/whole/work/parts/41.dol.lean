/-! set, told, at, cross, undo, taken, force -/
def dgP (D : Dg) (l : List Nat) : Dg := (D.1, l, D.2.2.1, D.2.2.2.1, D.2.2.2.2)
def dgN (D : Dg) (l : List Nat) : Dg := (D.1, D.2.1, l, D.2.2.2.1, D.2.2.2.2)
def dgH (D : Dg) (l : List Nat) : Dg := (D.1, D.2.1, D.2.2.1, l, D.2.2.2.2)
def inD (D : Dg) (v : Int32) : Prop := 0 ≤ v.toInt ∧ v.toInt < D.1.length
def sSet (D : Dg) (x k v : Int32) : Int32 × Dg :=
  if ¬ (0 ≤ x.toInt ∧ x.toInt < D.1.length) then (-2, D)
  else if k.toInt = 0 then (if 1 ≤ v.toInt ∧ v.toInt ≤ 9 then (nI (D.2.1.getD x.toInt.toNat 0), dgP D (D.2.1.set x.toInt.toNat v.toInt.toNat)) else (-2, D))
  else if k.toInt = 1 then (if 0 ≤ v.toInt ∧ v.toInt ≤ 9 then (nI (D.2.2.1.getD x.toInt.toNat 0), dgN D (D.2.2.1.set x.toInt.toNat v.toInt.toNat)) else (-2, D))
  else if k.toInt = 2 then (if 0 ≤ v.toInt ∧ v.toInt ≤ 99 then (nI (D.2.2.2.1.getD x.toInt.toNat 0), dgH D (D.2.2.2.1.set x.toInt.toNat v.toInt.toNat)) else (-2, D))
  else (-2, D)
theorem getD_at {l : List Nat} {i : Nat} (h : i < l.length) : l[i]? = some (l.getD i 0) := by
  rw [List.getD_eq_getElem?_getD, List.getElem?_eq_getElem h]; rfl
theorem all_set {l : List Nat} {P : Nat → Prop} {i v : Nat} (h : ∀ x ∈ l, P x) (hv : P v) : ∀ x ∈ l.set i v, P x := by
  intro x hx
  rcases List.mem_or_eq_of_mem_set hx with q | q
  · exact h x q
  · rw [q]; exact hv
section S41
variable {E : GE} {d : Nat} {a : Nat → Nat} {D : Dg} {r : Nat} {L : List Cr} {im tc : Int32} {w : va_W} {adK adV ta : Nat → Nat}
set_option maxRecDepth 20000 in
set_option maxHeartbeats 1000000 in
theorem c_set (hN : g_N E) (hw : Apk E a D r L im tc w) (x k v : Int32) : g_Ci E mX7_set (d + 3) [.ref (a 0), .int x, .int k, .int v] w (fun y w' => y = (sSet D x k v).1 ∧ Apk E a (sSet D x k v).2 r L im tc w') := by
  have hw' := hw
  obtain ⟨kd, pc, nb, hs, od, pl, ov, on, ot, be, rfl, hD, j1, j2, j3, j4, j5, hL, hpk, hrw⟩ := hw.lit
  obtain ⟨hn, l1, l2, l3, l4, b1, b2, b3, b4, b5, hnd⟩ := id hD
  refine g_enterI hN.1 (by decide) [some (.ref (a 0)), some (.int x), some (.int k), some (.int v)] rfl (Nat.le_of_ble_eq_true rfl) (fun A Q hQ => ?_)
  have tcm2 := tc_m2; have tc0 := tc_0; have tc1 := tc_1; have tc9 := tc_9; have tc99 := tc_99
  have e1 := t_nI (n := D.1.length) (by omega)
  unfold sSet at hQ
  have z0 := g_biz (p := (0 ≤ x.toInt ∧ x.toInt < D.1.length))
  have z1 := g_biz (p := ((1 : Int32).toInt ≤ v.toInt ∧ v.toInt ≤ (9 : Int32).toInt))
  have z2 := g_biz (p := ((0 : Int32).toInt ≤ v.toInt ∧ v.toInt ≤ (9 : Int32).toInt))
  have z3 := g_biz (p := ((0 : Int32).toInt ≤ v.toInt ∧ v.toInt ≤ (99 : Int32).toInt))
  refine g_aload0 dX7_set_0 (g_iload1 dX7_set_1 (?c2))
  refine g_V1i dX7_set_2 mv_X7_115 0 rfl rfl rfl (Nat.le_of_ble_eq_true rfl) (Nat.le_of_ble_eq_true rfl) (c_isDog hN hw' x) (fun r1 w1 hq => ?_)
  obtain ⟨rfl, rfl⟩ := hq
  refine g_if_ne (tgt := 11) dX7_set_5 (by decide) (fun h5 => g_iload2 dX7_set_11 (g_case (c := 0) (fun h12 => g_tsw_in (tgt := 40) 0 dX7_set_12 h12 (by decide) rfl (by decide) (g_iload3 dX7_set_40 (g_iconst ki_1 dX7_set_41 (g_bipush kb_9 dX7_set_42 (r_X7_isWithin hN mv_X7_100 dX7_set_44 (Nat.le_of_ble_eq_true rfl) (Nat.le_of_ble_eq_true rfl) rfl (g_if_eq (tgt := 65) dX7_set_47 (by decide) (fun h47 => g_bipush kb_m2 dX7_set_65 (g_iret rfl dX7_set_67 (Nat.le_of_ble_eq_true rfl) (Nat.le_of_ble_eq_true rfl) ?q67_2)) (fun h47 => g_aload0 dX7_set_50 (g_get fl_X7_10 0 rfl rfl dX7_set_51 (g_get fl_X7_119 1 rfl rfl dX7_set_54 (g_iload1 dX7_set_57 (g_iload3 dX7_set_58 (?c59_2)))))))))))) (fun n12_0 => g_case (c := 1) (fun h12 => g_tsw_in (tgt := 68) 1 dX7_set_12 h12 (by decide) rfl (by decide) (g_iload3 dX7_set_68 (g_iconst ki_0 dX7_set_69 (g_bipush kb_9 dX7_set_70 (r_X7_isWithin hN mv_X7_100 dX7_set_72 (Nat.le_of_ble_eq_true rfl) (Nat.le_of_ble_eq_true rfl) rfl (g_if_eq (tgt := 93) dX7_set_75 (by decide) (fun h75 => g_bipush kb_m2 dX7_set_93 (g_iret rfl dX7_set_95 (Nat.le_of_ble_eq_true rfl) (Nat.le_of_ble_eq_true rfl) ?q95_2)) (fun h75 => g_aload0 dX7_set_78 (g_get fl_X7_10 0 rfl rfl dX7_set_79 (g_get fl_X7_126 1 rfl rfl dX7_set_82 (g_iload1 dX7_set_85 (g_iload3 dX7_set_86 (?c87_2)))))))))))) (fun n12_1 => g_case (c := 2) (fun h12 => g_tsw_in (tgt := 96) 2 dX7_set_12 h12 (by decide) rfl (by decide) (g_iload3 dX7_set_96 (g_iconst ki_0 dX7_set_97 (g_bipush kb_99 dX7_set_98 (r_X7_isWithin hN mv_X7_100 dX7_set_100 (Nat.le_of_ble_eq_true rfl) (Nat.le_of_ble_eq_true rfl) rfl (g_if_eq (tgt := 121) dX7_set_103 (by decide) (fun h103 => g_bipush kb_m2 dX7_set_121 (g_iret rfl dX7_set_123 (Nat.le_of_ble_eq_true rfl) (Nat.le_of_ble_eq_true rfl) ?q123_2)) (fun h103 => g_aload0 dX7_set_106 (g_get fl_X7_10 0 rfl rfl dX7_set_107 (g_get fl_X7_129 1 rfl rfl dX7_set_110 (g_iload1 dX7_set_113 (g_iload3 dX7_set_114 (?c115_2)))))))))))) (fun n12_2 => g_tsw_out (tgt := 124) dX7_set_12 (by omega) (by decide) (g_bipush kb_m2 dX7_set_124 (g_iret rfl dX7_set_126 (Nat.le_of_ble_eq_true rfl) (Nat.le_of_ble_eq_true rfl) ?q126_2))))))) (fun h5 => g_bipush kb_m2 dX7_set_8 (g_iret rfl dX7_set_10 (Nat.le_of_ble_eq_true rfl) (Nat.le_of_ble_eq_true rfl) ?q10_2))
  case q10_2 => rw [if_pos (by omega)] at hQ; exact hQ _ _ ⟨rfl, hw'⟩
  all_goals rw [if_neg (by omega)] at hQ
  case q67_2 => rw [if_pos (by omega), if_neg (by omega)] at hQ; exact hQ _ _ ⟨rfl, hw'⟩
  case c59_2 =>
    rw [if_pos (by omega), if_pos (by omega)] at hQ
    refine r_replace hN 3 rfl (by omega) mv_X7_122 dX7_set_59 (Nat.le_of_ble_eq_true rfl) (Nat.le_of_ble_eq_true rfl) rfl ?_
    rw [j2.at (getD_at (show x.toInt.toNat < D.2.1.length by omega))]
    refine g_goto (tgt := 67) dX7_set_62 (by decide) (g_iret rfl dX7_set_67 (Nat.le_of_ble_eq_true rfl) (Nat.le_of_ble_eq_true rfl) ?q67_3)
    refine hQ _ _ ⟨rfl, _, _, Pck.mk (kd := kd) (pc := upd pc x.toInt.toNat v) (nb := nb) (hs := hs) (od := od) rfl rfl rfl ?_ ⟨j1, ?_, j3, j4, j5⟩, hrw, rfl⟩
    · exact ⟨hn, by rw [dgP]; show (D.2.1.set _ _).length = _; rw [List.length_set]; exact l1, l2, l3, l4, b1, all_set b2 (by omega), b3, b4, b5, hnd⟩
    · have := j2.set x.toInt.toNat v.toInt.toNat
      rw [← t_of (by omega)] at this
      exact this
  case q95_2 => rw [if_neg (by omega), if_pos (by omega), if_neg (by omega)] at hQ; exact hQ _ _ ⟨rfl, hw'⟩
  case c87_2 =>
    rw [if_neg (by omega), if_pos (by omega), if_pos (by omega)] at hQ
    refine r_replace hN 4 rfl (by omega) mv_X7_122 dX7_set_87 (Nat.le_of_ble_eq_true rfl) (Nat.le_of_ble_eq_true rfl) rfl ?_
    rw [j3.at (getD_at (show x.toInt.toNat < D.2.2.1.length by omega))]
    refine g_goto (tgt := 95) dX7_set_90 (by decide) (g_iret rfl dX7_set_95 (Nat.le_of_ble_eq_true rfl) (Nat.le_of_ble_eq_true rfl) ?q95_4)
    refine hQ _ _ ⟨rfl, _, _, Pck.mk (kd := kd) (pc := pc) (nb := upd nb x.toInt.toNat v) (hs := hs) (od := od) rfl rfl rfl ?_ ⟨j1, j2, ?_, j4, j5⟩, hrw, rfl⟩
    · exact ⟨hn, l1, by rw [dgN]; show (D.2.2.1.set _ _).length = _; rw [List.length_set]; exact l2, l3, l4, b1, b2, all_set b3 (by omega), b4, b5, hnd⟩
    · have := j3.set x.toInt.toNat v.toInt.toNat
      rw [← t_of (by omega)] at this
      exact this
  case q123_2 => rw [if_neg (by omega), if_neg (by omega), if_pos (by omega), if_neg (by omega)] at hQ; exact hQ _ _ ⟨rfl, hw'⟩
  case c115_2 =>
    rw [if_neg (by omega), if_neg (by omega), if_pos (by omega), if_pos (by omega)] at hQ
    refine r_replace hN 5 rfl (by omega) mv_X7_122 dX7_set_115 (Nat.le_of_ble_eq_true rfl) (Nat.le_of_ble_eq_true rfl) rfl ?_
    rw [j4.at (getD_at (show x.toInt.toNat < D.2.2.2.1.length by omega))]
    refine g_goto (tgt := 123) dX7_set_118 (by decide) (g_iret rfl dX7_set_123 (Nat.le_of_ble_eq_true rfl) (Nat.le_of_ble_eq_true rfl) ?q123_5)
    refine hQ _ _ ⟨rfl, _, _, Pck.mk (kd := kd) (pc := pc) (nb := nb) (hs := upd hs x.toInt.toNat v) (od := od) rfl rfl rfl ?_ ⟨j1, j2, j3, ?_, j5⟩, hrw, rfl⟩
    · exact ⟨hn, l1, l2, by rw [dgH]; show (D.2.2.2.1.set _ _).length = _; rw [List.length_set]; exact l3, l4, b1, b2, b3, all_set b4 (by omega), b5, hnd⟩
    · have := j4.set x.toInt.toNat v.toInt.toNat
      rw [← t_of (by omega)] at this
      exact this
  case q126_2 => rw [if_neg (by omega), if_neg (by omega), if_neg (by omega)] at hQ; exact hQ _ _ ⟨rfl, hw'⟩
def plN (D : Dg) (x : Nat) : Nat := D.2.2.2.2.idxOf x
def plsN (D : Dg) (x q : Nat) : Int := max 0 (pullsI (D.1.getD x 0) (D.2.1.getD x 0) (D.2.2.1.getD x 0) q)
def sTold (D : Dg) (x k : Int32) : Int :=
  if ¬ (0 ≤ x.toInt ∧ x.toInt < D.1.length) then -2
  else if k.toInt = 0 then D.2.1.getD x.toInt.toNat 0
  else if k.toInt = 1 then D.2.2.1.getD x.toInt.toNat 0
  else if k.toInt = 2 then D.2.2.2.1.getD x.toInt.toNat 0
  else if k.toInt = 3 then D.1.getD x.toInt.toNat 0
  else if k.toInt = 4 then plN D x.toInt.toNat
  else if k.toInt = 5 then plsN D x.toInt.toNat (plN D x.toInt.toNat)
  else -2
theorem nd_le : ∀ (m : Nat) (l : List Nat), l.Nodup → (∀ x ∈ l, x < m) → l.length ≤ m
  | 0, l, _, h => by
    cases l with
    | nil => exact Nat.le_refl _
    | cons x l => exact absurd (h x List.mem_cons_self) (Nat.not_lt_zero x)
  | m + 1, l, hnd, h => by
    by_cases hm : m ∈ l
    · have h1 := nd_le m (l.erase m) (hnd.erase m) (fun x hx => by
        have h2 := (hnd.mem_erase_iff).mp hx
        have h3 := h x h2.2
        have h4 : x ≠ m := h2.1
        omega)
      rw [List.length_erase_of_mem hm] at h1
      omega
    · have h1 := nd_le m l hnd (fun x hx => by
        have h3 := h x hx
        have h4 : x ≠ m := fun q => hm (q ▸ hx)
        omega)
      omega
theorem nodup_all (n : Nat) (l : List Nat) (hl : l.length = n) (hnd : l.Nodup) (hlt : ∀ x ∈ l, x < n) (x : Nat) (hx : x < n) : x ∈ l := by
  by_cases h : x ∈ l
  · exact h
  · have h1 : (x :: l).Nodup := List.nodup_cons.mpr ⟨h, hnd⟩
    have h2 := nd_le n (x :: l) h1 (fun y hy => by
      rcases List.mem_cons.mp hy with q | q
      · rw [q]; exact hx
      · exact hlt y q)
    rw [List.length_cons, hl] at h2
    omega
theorem dg_mem (hD : dgOK D) {x : Nat} (hx : x < D.1.length) : x ∈ D.2.2.2.2 := by
  obtain ⟨hn, l1, l2, l3, l4, b1, b2, b3, b4, b5, hnd⟩ := hD
  exact nodup_all D.1.length _ l4 hnd b5 x hx
set_option maxRecDepth 20000 in
set_option maxHeartbeats 1000000 in
theorem c_told (hN : g_N E) (hw : Apk E a D r L im tc w) (x k : Int32) : g_Ci E mX7_told (d + 3) [.ref (a 0), .int x, .int k] w (fun y w' => y.toInt = sTold D x k ∧ w' = w) := by
  have hw' := hw
  obtain ⟨kd, pc, nb, hs, od, pl, ov, on, ot, be, rfl, hD, j1, j2, j3, j4, j5, hL, hpk, hrw⟩ := hw.lit
  obtain ⟨hn, l1, l2, l3, l4, b1, b2, b3, b4, b5, hnd⟩ := id hD
  refine g_enterI hN.1 (by decide) [some (.ref (a 0)), some (.int x), some (.int k)] rfl (Nat.le_of_ble_eq_true rfl) (fun A Q hQ => ?_)
  have tcm2 := tc_m2
  have e1 := t_nI (n := D.1.length) (by omega)
  unfold sTold at hQ
  have z0 := g_biz (p := (0 ≤ x.toInt ∧ x.toInt < D.1.length))
  refine g_aload0 dX7_told_0 (g_iload1 dX7_told_1 (?c2))
  refine g_V1i dX7_told_2 mv_X7_115 0 rfl rfl rfl (Nat.le_of_ble_eq_true rfl) (Nat.le_of_ble_eq_true rfl) (c_isDog hN hw' x) (fun r1 w1 hq => ?_)
  obtain ⟨rfl, rfl⟩ := hq
  have fin : ∀ {l : List Nat} {f : Nat → Int32} {b : Nat}, Lst l f → l.length = D.1.length → (∀ y ∈ l, y ≤ b) → b < 1000 → (0 ≤ x.toInt ∧ x.toInt < D.1.length) → (f x.toInt.toNat).toInt = l.getD x.toInt.toNat 0 := by
    intro l f b hl hlen hb hb1 hx
    have hg := getD_at (l := l) (i := x.toInt.toNat) (by omega)
    have := hb _ (List.mem_of_getElem? hg)
    rw [hl.at hg, t_nI (by omega)]
  have ex : 0 ≤ x.toInt → x = nI x.toInt.toNat := fun h => t_of h
  refine g_if_ne (tgt := 11) dX7_told_5 (by decide) (fun h5 => g_iload2 dX7_told_11 (g_case (c := 0) (fun h12 => g_tsw_in (tgt := 52) 0 dX7_told_12 h12 (by decide) rfl (by decide) (g_aload0 dX7_told_52 (g_get fl_X7_10 0 rfl rfl dX7_told_53 (g_get fl_X7_119 1 rfl rfl dX7_told_56 (g_iload1 dX7_told_59 (g_iaload 3 rfl dX7_told_60 ?b60_2 (g_iret rfl dX7_told_61 (Nat.le_of_ble_eq_true rfl) (Nat.le_of_ble_eq_true rfl) ?q61_2))))))) (fun n12_0 => g_case (c := 1) (fun h12 => g_tsw_in (tgt := 62) 1 dX7_told_12 h12 (by decide) rfl (by decide) (g_aload0 dX7_told_62 (g_get fl_X7_10 0 rfl rfl dX7_told_63 (g_get fl_X7_126 1 rfl rfl dX7_told_66 (g_iload1 dX7_told_69 (g_iaload 4 rfl dX7_told_70 ?b70_2 (g_iret rfl dX7_told_71 (Nat.le_of_ble_eq_true rfl) (Nat.le_of_ble_eq_true rfl) ?q71_2))))))) (fun n12_1 => g_case (c := 2) (fun h12 => g_tsw_in (tgt := 72) 2 dX7_told_12 h12 (by decide) rfl (by decide) (g_aload0 dX7_told_72 (g_get fl_X7_10 0 rfl rfl dX7_told_73 (g_get fl_X7_129 1 rfl rfl dX7_told_76 (g_iload1 dX7_told_79 (g_iaload 5 rfl dX7_told_80 ?b80_2 (g_iret rfl dX7_told_81 (Nat.le_of_ble_eq_true rfl) (Nat.le_of_ble_eq_true rfl) ?q81_2))))))) (fun n12_2 => g_case (c := 3) (fun h12 => g_tsw_in (tgt := 82) 3 dX7_told_12 h12 (by decide) rfl (by decide) (g_aload0 dX7_told_82 (g_get fl_X7_10 0 rfl rfl dX7_told_83 (g_get fl_X7_132 1 rfl rfl dX7_told_86 (g_iload1 dX7_told_89 (g_iaload 2 rfl dX7_told_90 ?b90_2 (g_iret rfl dX7_told_91 (Nat.le_of_ble_eq_true rfl) (Nat.le_of_ble_eq_true rfl) ?q91_2))))))) (fun n12_3 => g_case (c := 4) (fun h12 => g_tsw_in (tgt := 92) 4 dX7_told_12 h12 (by decide) rfl (by decide) (g_aload0 dX7_told_92 (g_get fl_X7_10 0 rfl rfl dX7_told_93 (g_iload1 dX7_told_96 (?c97_2))))) (fun n12_4 => g_case (c := 5) (fun h12 => g_tsw_in (tgt := 101) 5 dX7_told_12 h12 (by decide) rfl (by decide) (g_aload0 dX7_told_101 (g_get fl_X7_10 0 rfl rfl dX7_told_102 (g_iload1 dX7_told_105 (g_aload0 dX7_told_106 (g_get fl_X7_10 0 rfl rfl dX7_told_107 (g_iload1 dX7_told_110 (?c111_2)))))))) (fun n12_5 => g_tsw_out (tgt := 118) dX7_told_12 (by omega) (by decide) (g_bipush kb_m2 dX7_told_118 (g_iret rfl dX7_told_120 (Nat.le_of_ble_eq_true rfl) (Nat.le_of_ble_eq_true rfl) ?q120_2)))))))))) (fun h5 => g_bipush kb_m2 dX7_told_8 (g_iret rfl dX7_told_10 (Nat.le_of_ble_eq_true rfl) (Nat.le_of_ble_eq_true rfl) ?q10_2))
  case q10_2 => rw [if_pos (by omega)] at hQ; exact hQ _ _ ⟨tcm2, rfl⟩
  all_goals rw [if_neg (by omega)] at hQ
  case b60_2 => omega
  case q61_2 => rw [if_pos (by omega)] at hQ; exact hQ _ _ ⟨fin j2 l1 (fun y hy => (b2 y hy).2) (by omega) (by omega), rfl⟩
  all_goals rw [if_neg (by omega)] at hQ
  case b70_2 => omega
  case q71_2 => rw [if_pos (by omega)] at hQ; exact hQ _ _ ⟨fin j3 l2 b3 (by omega) (by omega), rfl⟩
  all_goals rw [if_neg (by omega)] at hQ
  case b80_2 => omega
  case q81_2 => rw [if_pos (by omega)] at hQ; exact hQ _ _ ⟨fin j4 l3 b4 (by omega) (by omega), rfl⟩
  all_goals rw [if_neg (by omega)] at hQ
  case b90_2 => omega
  case q91_2 => rw [if_pos (by omega)] at hQ; exact hQ _ _ ⟨fin j1 rfl b1 (by omega) (by omega), rfl⟩
  all_goals rw [if_neg (by omega)] at hQ
  case c97_2 =>
    rw [if_pos (by omega)] at hQ
    have hm := dg_mem hD (x := x.toInt.toNat) (by omega)
    have hp := c_placeOf (d := d + 1) hN hpk hm
    rw [← ex (by omega)] at hp
    refine g_V1i dX7_told_97 mv_X7_135 1 rfl rfl rfl (Nat.le_of_ble_eq_true rfl) (Nat.le_of_ble_eq_true rfl) (hp.frame (X := [(a 0, dolO a im tc)])) (fun r1 w1 hq => ?_)
    obtain ⟨w2, ⟨rfl, rfl⟩, rfl⟩ := hq
    refine g_iret rfl dX7_told_100 (Nat.le_of_ble_eq_true rfl) (Nat.le_of_ble_eq_true rfl) ?q100_3
    have := List.idxOf_lt_length_of_mem hm
    exact hQ _ _ ⟨t_nI (by omega), rfl⟩
  all_goals rw [if_neg (by omega)] at hQ
  case c111_2 =>
    rw [if_pos (by omega)] at hQ
    have hm := dg_mem hD (x := x.toInt.toNat) (by omega)
    have hp := c_placeOf (d := d + 1) hN hpk hm
    rw [← ex (by omega)] at hp
    refine g_V1i dX7_told_111 mv_X7_135 1 rfl rfl rfl (Nat.le_of_ble_eq_true rfl) (Nat.le_of_ble_eq_true rfl) (hp.frame (X := [(a 0, dolO a im tc)])) (fun r1 w1 hq => ?_)
    obtain ⟨w2, ⟨rfl, rfl⟩, rfl⟩ := hq
    have hi := List.idxOf_lt_length_of_mem hm
    have hpu := c_pulls (d := d) (q := D.2.2.2.2.idxOf x.toInt.toNat) hN hpk (getD_at (l := D.1) (i := x.toInt.toNat) (by omega)) (getD_at (l := D.2.1) (i := x.toInt.toNat) (by omega)) (getD_at (l := D.2.2.1) (i := x.toInt.toNat) (by omega)) (by omega)
    rw [← ex (by omega)] at hpu
    refine g_V2i dX7_told_114 mv_X7_139 1 rfl rfl rfl (Nat.le_of_ble_eq_true rfl) (Nat.le_of_ble_eq_true rfl) (hpu.frame (X := [(a 0, dolO a im tc)])) (fun r1 w1 hq => ?_)
    obtain ⟨w2, ⟨hv, rfl⟩, rfl⟩ := hq
    refine g_iret rfl dX7_told_117 (Nat.le_of_ble_eq_true rfl) (Nat.le_of_ble_eq_true rfl) ?q117_4
    exact hQ _ _ ⟨hv, rfl⟩
  case q120_2 => rw [if_neg (by omega)] at hQ; exact hQ _ _ ⟨tcm2, rfl⟩
end S41
