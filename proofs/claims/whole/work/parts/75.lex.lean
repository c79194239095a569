/-! the model's reader: bytes, tokens -/
def MyB (B : List Nat) (ti : Nat) (v : Nat → Int32) (f : Nat → Nat → Int32) : Prop := B.length ≤ 160 ∧ ti < 6 ∧ (∀ x ∈ B, x < 256) ∧ v 22 = nI (160 * ti) ∧ v 23 = nI B.length ∧ ∀ (i x : Nat), B[i]? = some x → f 1 (160 * ti + i) = nI x
theorem MyB.ag {B : List Nat} {ti : Nat} {S : List Nat} {v v' : Nat → Int32} {f : Nat → Nat → Int32} (h : MyB B ti v f) (h1 : agV S v v') (q1 : S.contains 22 = false) (q2 : S.contains 23 = false) : MyB B ti v' f := by
  unfold MyB
  rw [h1.at 22 q1, h1.at 23 q2]
  exact h
def byI (B : List Nat) (p : Nat) : Int32 := match B[p]? with
  | some x => nI x
  | none => -1
theorem byI_s {B : List Nat} {p x : Nat} (h : B[p]? = some x) : byI B p = nI x := by unfold byI; rw [h]
theorem byI_n {B : List Nat} {p : Nat} (h : ¬ p < B.length) : byI B p = -1 := by unfold byI; rw [List.getElem?_eq_none (by omega)]
/-- a token as the model has it: k its sort, a its place, h what is next, t its worth -/
def MyT (B : List Nat) (P : PS) (k a h : Int32) (t : Int64) : Prop :=
  a = nI P.2.1 ∧ P.2.1 ≤ B.length ∧ P.2.2.1 ≤ B.length ∧ ((P.1 = 22 ∧ k = 0 ∧ P.2.1 = B.length) ∨
   (k = 1 ∧ h = nI P.2.2.1 ∧ P.2.1 < P.2.2.1 ∧ P.1 = wcode (slc B P.2.1 P.2.2.1) ∧ (∀ x ∈ slc B P.2.1 P.2.2.1, letB x = true)) ∨
   (P.1 = 21 ∧ k = 2 ∧ h = nI P.2.2.1 ∧ P.2.1 < P.2.2.1 ∧ t.toInt = P.2.2.2 ∧ P.2.2.2 < 10000) ∨
   (∃ c j, k = 3 ∧ h = nI P.2.2.1 ∧ P.2.1 < P.2.2.1 ∧ t.toInt = ((c : Nat) : Int) ∧ sgL[j]? = some c ∧ P.1 = 12 + j) ∨
   (P.1 = 23 ∧ k = 4))
theorem sgnF_spec (b : Nat) : ∀ t j, (∃ i, i < t ∧ sgL.getD (j + i) 0 = b ∧ sgnF b j t = 12 + (j + i)) ∨ ((∀ i, i < t → sgL.getD (j + i) 0 ≠ b) ∧ sgnF b j t = 23)
  | 0, j => Or.inr ⟨fun i hi => absurd hi (Nat.not_lt_zero i), rfl⟩
  | t + 1, j => by
    rw [sgnF]
    by_cases h : sgL.getD j 0 = b
    · rw [if_pos h]
      exact Or.inl ⟨0, by omega, h, rfl⟩
    · rw [if_neg h]
      rcases sgnF_spec b t (j + 1) with ⟨i, h1, h2, h3⟩ | ⟨h1, h2⟩
      · exact Or.inl ⟨i + 1, by omega, by rw [show j + (i + 1) = j + 1 + i by omega]; exact h2, by rw [h3]; omega⟩
      · refine Or.inr ⟨fun i hi => ?_, h2⟩
        cases i with
        | zero => exact h
        | succ i => rw [show j + (i + 1) = j + 1 + i by omega]; exact h1 i (by omega)
theorem slc_all {P : Nat → Bool} {T : List Nat} {p : Nat} : ∀ x ∈ slc T p (scan P T p), P x = true := by
  intro x hx
  unfold slc scan at hx
  rw [show p + ((T.drop p).takeWhile P).length - p = ((T.drop p).takeWhile P).length by omega] at hx
  have h1 : (T.drop p).take ((T.drop p).takeWhile P).length = (T.drop p).takeWhile P := List.prefix_iff_eq_take.mp (List.takeWhile_prefix P) |>.symm
  rw [h1] at hx
  have : ∀ (l : List Nat), ∀ x ∈ l.takeWhile P, P x = true := by
    intro l
    induction l with
    | nil => intro x hx; simp at hx
    | cons y l ih =>
      intro x hx
      rw [List.takeWhile_cons] at hx
      split at hx
      · rcases List.mem_cons.mp hx with q | q
        · rw [q]; assumption
        · exact ih x q
      · simp at hx
  exact this _ x hx
section S75
variable {E : GE} {d : Nat} {b : Nat → Nat} {v : Nat → Int32} {t : Int64} {f : Nat → Nat → Int32} {B : List Nat} {ti : Nat}
set_option maxRecDepth 20000 in
theorem c_X8_byteAt (hN : g_N E) (hB : MyB B ti v f) {p : Nat} (hp : p ≤ 160) : g_Ci E mX8_byteAt (d + 1) [.ref (b 0), .int (nI p)] (mW E b v t f) (fun z w => z = byI B p ∧ w = mW E b v t f) := by
  obtain ⟨h1, h2, h3, h4, h5, h6⟩ := hB
  refine g_enterI hN.1 (by decide) [some (.ref (b 0)), some (.int (nI p))] rfl (Nat.le_of_ble_eq_true rfl) (fun A Q hQ => ?_)
  have tcm1 := tc_m1
  have e1 := t_nI (n := p) (by omega)
  have e2 : (v 23).toInt = (B.length : Int) := by rw [h5, t_nI (by omega)]
  have e3 : (v 22 + nI p).toInt = ((160 * ti + p : Nat) : Int) := by rw [h4, nI_add, t_nI (by omega)]
  refine g_iload1 dX8_byteAt_0 (g_aload0 dX8_byteAt_1 (g_mget fl_X8_140 mg_23 dX8_byteAt_2 (g_icmp_ge (tgt := 22) dX8_byteAt_5 (by decide) (fun h5 => g_iconst ki_m1 dX8_byteAt_22 (g_iret rfl dX8_byteAt_23 (Nat.le_of_ble_eq_true rfl) (Nat.le_of_ble_eq_true rfl) ?q23)) (fun h5 => g_aload0 dX8_byteAt_8 (g_mget fl_X8_13 mg_1 dX8_byteAt_9 (g_aload0 dX8_byteAt_12 (g_mget fl_X8_143 mg_22 dX8_byteAt_13 (g_iload1 dX8_byteAt_16 (g_iadd dX8_byteAt_17 (g_mia ma_1 dX8_byteAt_18 ?b18 (g_goto (tgt := 23) dX8_byteAt_19 (by decide) (g_iret rfl dX8_byteAt_23 (Nat.le_of_ble_eq_true rfl) (Nat.le_of_ble_eq_true rfl) ?q23'))))))))))))
  case q23 => exact hQ _ _ ⟨(byI_n (by omega)).symm, rfl⟩
  case b18 => omega
  case q23' =>
    obtain ⟨x, hx⟩ : ∃ x, B[p]? = some x := ⟨B[p], List.getElem?_eq_getElem (by omega)⟩
    rw [e3, Int.toNat_natCast, h6 p x hx]
    exact hQ _ _ ⟨(byI_s hx).symm, rfl⟩
set_option maxRecDepth 20000 in
set_option maxHeartbeats 4000000 in
theorem c_X8_next (hN : g_N E) (hB : MyB B ti v f) {p0 : Nat} (hp0 : p0 ≤ B.length) (h24 : v 24 = nI p0) : g_Cv E mX8_next (d + 3) [.ref (b 0)] (mW E b v t f) (fun w => ∃ v' t', w = mW E b v' t' f ∧ agV [24, 25, 26] v v' ∧ MyT B (lexP B p0) (v' 25) (v' 26) (v' 24) t') := by
  have hB0 := hB
  obtain ⟨h1, h2, h3, h4, h5, h6⟩ := hB0
  have el := t_nI (n := B.length) (by omega)
  refine g_enterV hN.1 (by decide) [some (.ref (b 0)), none, none] rfl (Nat.le_of_ble_eq_true rfl) (fun A Q hQ => ?_)
  have tc0 := tc_0; have tc1 := tc_1; have tc2 := tc_2; have tc3 := tc_3; have tc4 := tc_4; have tc10 := tc_10; have tc32 := tc_32; have tc40 := tc_40; have tc41 := tc_41; have tc42 := tc_42; have tc43 := tc_43; have tc45 := tc_45; have tc59 := tc_59; have tc60 := tc_60; have tc61 := tc_61
  have hgS := scan_le blankB hp0
  have hge := scan_ge blankB B p0
  have hlx : lexP B p0 = (match B[scan blankB B p0]? with
    | none => (22, scan blankB B p0, scan blankB B p0, 0)
    | some b => if letB b then (wcode (slc B (scan blankB B p0) (scan letB B (scan blankB B p0))), scan blankB B p0, scan letB B (scan blankB B p0), 0)
      else if digB b then (if 4 < scan digB B (scan blankB B p0) - scan blankB B p0 then 23 else 21, scan blankB B p0, scan digB B (scan blankB B p0), nval (slc B (scan blankB B p0) (scan digB B (scan blankB B p0))))
      else (sgnF b 0 8, scan blankB B p0, scan blankB B p0 + 1, 0)) := rfl
  generalize hg : scan blankB B p0 = s at hlx hgS hge
  rw [hlx] at hQ
  have es := t_nI (n := s) (by omega)
  have bfact : ∀ p x : Nat, B[p]? = some x → (byI B p).toInt = (x : Int) ∧ x < 256 := by
    intro p x hx
    have := h3 x (List.mem_of_getElem? hx)
    rw [byI_s hx, t_nI (by omega)]
    exact ⟨rfl, this⟩
  have bnone : ∀ p : Nat, ¬ p < B.length → (byI B p).toInt = -1 := by
    intro p hp
    rw [byI_n hp]; decide
  -- the word's letters
  have wloop : ∀ u p v2 l1 l2, p + u = scan letB B s → s ≤ p → scan letB B p = scan letB B s → v2 24 = nI p → v2 25 = 1 → v2 26 = nI s → agV [24, 25, 26] v v2 → (∃ x, B[s]? = some x ∧ letB x = true) → s < scan letB B s → G E mX8_next (d + 3) 0 0 A Q 0 0 100 [some (.ref (b 0)), l1, l2] [] (mW E b v2 t f) := by
    intro u
    induction u with
    | zero =>
      intro p v2 l1 l2 hpu hsp hsc k24 k25 k26 hag hx hlt
      have hps : p = scan letB B s := by omega
      have hfB := scan_le letB (T := B) (p := s) (by omega)
      have hno : ¬ (97 ≤ (byI B p).toInt ∧ (byI B p).toInt ≤ 122) := by
        intro q
        by_cases hpl : p < B.length
        · obtain ⟨x, hx⟩ : ∃ x, B[p]? = some x := ⟨B[p], List.getElem?_eq_getElem hpl⟩
          have hbf := bfact p x hx
          have hl : letB x = true := decide_eq_true (by omega)
          have := scan_yes hx hl
          have := scan_ge letB B (p + 1)
          omega
        · have := bnone p hpl
          omega
      refine g_aload0 dX8_next_100 (g_aload0 dX8_next_101 (g_mget fl_X8_146 mg_24 dX8_next_102 (?c105)))
      rw [k24]
      refine g_V1i dX8_next_105 mv_X8_149 0 rfl rfl rfl (Nat.le_of_ble_eq_true rfl) (Nat.le_of_ble_eq_true rfl) (c_X8_byteAt (d := d + 1) hN (hB.ag hag rfl rfl) (by omega)) (fun r1 w1 hq => ?_)
      obtain ⟨rfl, rfl⟩ := hq
      refine g_i2l dX8_next_108 (g_ldc2_w kj_X8_158 dX8_next_109 (g_ldc2_w kj_X8_160 dX8_next_112 (r_X8_in hN mv_X8_106 dX8_next_115 (Nat.le_of_ble_eq_true rfl) (Nat.le_of_ble_eq_true rfl) rfl (g_if_eq (tgt := 321) dX8_next_118 (by decide) (fun h118 => g_vret rfl dX8_next_321 (Nat.le_of_ble_eq_true rfl) (Nat.le_of_ble_eq_true rfl) ?q321_2) (fun h118 => ?s121_2)))))
      all_goals try simp only [g_biz, Int32.toInt_toInt64, tl_m4611686018427387904, tl_m1, tl_0, tl_1, tl_2, tl_3, tl_4, tl_5, tl_9, tl_10, tl_20, tl_40, tl_43, tl_48, tl_57, tl_60, tl_97, tl_99, tl_122, tl_255] at *
      case s121_2 => exact absurd (Classical.not_not.mp h118) hno
      case q321_2 =>
        obtain ⟨x, hx, hxl⟩ := hx
        rw [hx] at hQ
        dsimp only at hQ
        rw [hxl] at hQ
        simp only [if_true] at hQ
        exact hQ _ ⟨v2, t, rfl, hag, k26, by dsimp only; omega, by dsimp only; omega, Or.inr (Or.inl ⟨k25, by rw [k24, hps], hlt, rfl, slc_all⟩)⟩
    | succ u ih =>
      intro p v2 l1 l2 hpu hsp hsc k24 k25 k26 hag hx hlt
      have hfB := scan_le letB (T := B) (p := s) (by omega)
      obtain ⟨y, hy⟩ : ∃ y, B[p]? = some y := ⟨B[p], List.getElem?_eq_getElem (by omega)⟩
      have hbf := bfact p y hy
      have hlb : letB y = true := by
        by_cases q : letB y = true
        · exact q
        · have := scan_no (P := letB) (T := B) (p := p) (fun c hc => by rw [hy] at hc; cases hc; simpa using q)
          omega
      have hlb2 : 97 ≤ y ∧ y ≤ 122 := of_decide_eq_true hlb
      refine g_aload0 dX8_next_100 (g_aload0 dX8_next_101 (g_mget fl_X8_146 mg_24 dX8_next_102 (?c105_3)))
      rw [k24]
      refine g_V1i dX8_next_105 mv_X8_149 0 rfl rfl rfl (Nat.le_of_ble_eq_true rfl) (Nat.le_of_ble_eq_true rfl) (c_X8_byteAt (d := d + 1) hN (hB.ag hag rfl rfl) (by omega)) (fun r1 w1 hq => ?_)
      obtain ⟨rfl, rfl⟩ := hq
      refine g_i2l dX8_next_108 (g_ldc2_w kj_X8_158 dX8_next_109 (g_ldc2_w kj_X8_160 dX8_next_112 (r_X8_in hN mv_X8_106 dX8_next_115 (Nat.le_of_ble_eq_true rfl) (Nat.le_of_ble_eq_true rfl) rfl (g_if_eq (tgt := 321) dX8_next_118 (by decide) (fun h118 => g_vret rfl dX8_next_321 (Nat.le_of_ble_eq_true rfl) (Nat.le_of_ble_eq_true rfl) ?q321_4) (fun h118 => g_aload0 dX8_next_121 (g_dup dX8_next_122 rfl (g_mget fl_X8_146 mg_24 dX8_next_123 (g_iconst ki_1 dX8_next_126 (g_iadd dX8_next_127 (g_mput fl_X8_146 fp_7_24 ms_24 rfl rfl rfl dX8_next_128 (g_goto (tgt := 100) dX8_next_131 (by decide) (?s100_4))))))))))))
      all_goals try simp only [g_biz, Int32.toInt_toInt64, tl_m4611686018427387904, tl_m1, tl_0, tl_1, tl_2, tl_3, tl_4, tl_5, tl_9, tl_10, tl_20, tl_40, tl_43, tl_48, tl_57, tl_60, tl_97, tl_99, tl_122, tl_255] at *
      case q321_4 => omega
      case s100_4 =>
        rw [k24, nI_1]
        refine ih (p + 1) _ _ _ (by omega) (by omega) (by rw [← hsc]; exact (scan_yes hy hlb).symm) upd_s ?_ ?_ (hag.up 24 _ rfl) hx hlt
        · rw [upd_o (by decide)]; exact k25
        · rw [upd_o (by decide)]; exact k26
  -- the number's digits
  have nloop : ∀ u p v2 (t2 : Int64) (l1 : Int32), p + u = scan digB B s → s ≤ p → scan digB B p = scan digB B s → v2 24 = nI p → v2 26 = nI s → agV [24, 25, 26] v v2 → (∃ x, B[s]? = some x ∧ digB x = true ∧ letB x = false) → s < scan digB B s → (p ≤ s + 4 → t2.toInt = nval (slc B s p) ∧ nval (slc B s p) < 10 ^ (p - s)) → G E mX8_next (d + 3) 0 0 A Q 0 0 160 [some (.ref (b 0)), some (.int l1), some (.int (nI (p - s)))] [] (mW E b v2 t2 f) := by
    intro u
    induction u with
    | zero =>
      intro p v2 t2 l1 hpu hsp hsc k24 k26 hag hx hlt hval
      have hps : p = scan digB B s := by omega
      have hfB := scan_le digB (T := B) (p := s) (by omega)
      have en := t_nI (n := p - s) (by omega)
      have hno : ¬ (48 ≤ (byI B p).toInt ∧ (byI B p).toInt ≤ 57) := by
        intro q
        by_cases hpl : p < B.length
        · obtain ⟨x, hx⟩ : ∃ x, B[p]? = some x := ⟨B[p], List.getElem?_eq_getElem hpl⟩
          have hbf := bfact p x hx
          have hl : digB x = true := decide_eq_true (by omega)
          have := scan_yes hx hl
          have := scan_ge digB B (p + 1)
          omega
        · have := bnone p hpl
          omega
      refine g_aload0 dX8_next_160 (g_aload0 dX8_next_161 (g_mget fl_X8_146 mg_24 dX8_next_162 (?c165_5)))
      rw [k24]
      refine g_V1i dX8_next_165 mv_X8_149 0 rfl rfl rfl (Nat.le_of_ble_eq_true rfl) (Nat.le_of_ble_eq_true rfl) (c_X8_byteAt (d := d + 1) hN (hB.ag hag rfl rfl) (by omega)) (fun r1 w1 hq => ?_)
      obtain ⟨rfl, rfl⟩ := hq
      refine g_i2l dX8_next_168 (g_ldc2_w kj_X8_162 dX8_next_169 (g_ldc2_w kj_X8_164 dX8_next_172 (r_X8_in hN mv_X8_106 dX8_next_175 (Nat.le_of_ble_eq_true rfl) (Nat.le_of_ble_eq_true rfl) rfl (g_if_eq (tgt := 235) dX8_next_178 (by decide) (fun h178 => g_aload0 dX8_next_235 (g_iload2 dX8_next_236 (g_iconst ki_4 dX8_next_237 (g_icmp_le (tgt := 245) dX8_next_238 (by decide) (fun h238 => g_iconst ki_2 dX8_next_245 (g_mput fl_X8_155 fp_7_25 ms_25 rfl rfl rfl dX8_next_246 (g_goto (tgt := 321) dX8_next_249 (by decide) (g_vret rfl dX8_next_321 (Nat.le_of_ble_eq_true rfl) (Nat.le_of_ble_eq_true rfl) ?q321_6)))) (fun h238 => g_iconst ki_4 dX8_next_241 (g_goto (tgt := 246) dX8_next_242 (by decide) (g_mput fl_X8_155 fp_7_25 ms_25 rfl rfl rfl dX8_next_246 (g_goto (tgt := 321) dX8_next_249 (by decide) (g_vret rfl dX8_next_321 (Nat.le_of_ble_eq_true rfl) (Nat.le_of_ble_eq_true rfl) ?q321_6'))))))))) (fun h178 => ?s181_6)))))
      all_goals try simp only [g_biz, Int32.toInt_toInt64, tl_m4611686018427387904, tl_m1, tl_0, tl_1, tl_2, tl_3, tl_4, tl_5, tl_9, tl_10, tl_20, tl_40, tl_43, tl_48, tl_57, tl_60, tl_97, tl_99, tl_122, tl_255] at *
      case s181_6 => exact absurd (Classical.not_not.mp h178) hno
      all_goals obtain ⟨x, hx, hxd, hxl⟩ := hx
      all_goals rw [hx] at hQ
      all_goals dsimp only at hQ
      all_goals rw [hxl, hxd] at hQ
      all_goals simp only [if_true, Bool.false_eq_true, if_false] at hQ
      all_goals rw [← hps] at hQ
      case q321_6 =>
        rw [if_neg (by omega)] at hQ
        obtain ⟨q1, q2⟩ := hval (by omega)
        refine hQ _ ⟨_, t2, rfl, hag.up 25 _ rfl, by rw [upd_o (by decide)]; exact k26, by dsimp only; omega, by dsimp only; omega, Or.inr (Or.inr (Or.inl ⟨rfl, upd_s, by rw [upd_o (by decide)]; exact k24, by dsimp only; omega, q1, ?_⟩))⟩
        dsimp only
        have : 10 ^ (p - s) ≤ 10 ^ 4 := Nat.pow_le_pow_right (by omega) (by omega)
        omega
      case q321_6' =>
        rw [if_pos (by omega)] at hQ
        exact hQ _ ⟨_, t2, rfl, hag.up 25 _ rfl, by rw [upd_o (by decide)]; exact k26, by dsimp only; omega, by dsimp only; omega, Or.inr (Or.inr (Or.inr (Or.inr ⟨rfl, upd_s⟩)))⟩
    | succ u ih =>
      intro p v2 t2 l1 hpu hsp hsc k24 k26 hag hx hlt hval
      have hfB := scan_le digB (T := B) (p := s) (by omega)
      have en := t_nI (n := p - s) (by omega)
      obtain ⟨y, hy⟩ : ∃ y, B[p]? = some y := ⟨B[p], List.getElem?_eq_getElem (by omega)⟩
      have hbf := bfact p y hy
      have hlb : digB y = true := by
        by_cases q : digB y = true
        · exact q
        · have := scan_no (P := digB) (T := B) (p := p) (fun c hc => by rw [hy] at hc; cases hc; simpa using q)
          omega
      have hlb2 : 48 ≤ y ∧ y ≤ 57 := of_decide_eq_true hlb
      have step : ∀ (t3 : Int64), (p + 1 ≤ s + 4 → t3.toInt = nval (slc B s (p + 1)) ∧ nval (slc B s (p + 1)) < 10 ^ (p + 1 - s)) → G E mX8_next (d + 3) 0 0 A Q 0 0 219 [some (.ref (b 0)), some (.int l1), some (.int (nI (p - s)))] [] (mW E b v2 t3 f) := by
        intro t3 ht3
        refine g_iinc2 ki_1 dX8_next_219 rfl rfl (g_aload0 dX8_next_222 (g_dup dX8_next_223 rfl (g_mget fl_X8_146 mg_24 dX8_next_224 (g_iconst ki_1 dX8_next_227 (g_iadd dX8_next_228 (g_mput fl_X8_146 fp_7_24 ms_24 rfl rfl rfl dX8_next_229 (g_goto (tgt := 160) dX8_next_232 (by decide) (?s160_7))))))))
        rw [k24, nI_1, nI_1, show p - s + 1 = p + 1 - s by omega]
        refine ih (p + 1) _ _ _ (by omega) (by omega) (by rw [← hsc]; exact (scan_yes hy hlb).symm) upd_s ?_ (hag.up 24 _ rfl) hx hlt ht3
        rw [upd_o (by decide)]; exact k26
      refine g_aload0 dX8_next_160 (g_aload0 dX8_next_161 (g_mget fl_X8_146 mg_24 dX8_next_162 (?c165_8)))
      rw [k24]
      refine g_V1i dX8_next_165 mv_X8_149 0 rfl rfl rfl (Nat.le_of_ble_eq_true rfl) (Nat.le_of_ble_eq_true rfl) (c_X8_byteAt (d := d + 1) hN (hB.ag hag rfl rfl) (by omega)) (fun r1 w1 hq => ?_)
      obtain ⟨rfl, rfl⟩ := hq
      refine g_i2l dX8_next_168 (g_ldc2_w kj_X8_162 dX8_next_169 (g_ldc2_w kj_X8_164 dX8_next_172 (r_X8_in hN mv_X8_106 dX8_next_175 (Nat.le_of_ble_eq_true rfl) (Nat.le_of_ble_eq_true rfl) rfl (g_if_eq (tgt := 235) dX8_next_178 (by decide) (fun h178 => g_aload0 dX8_next_235 (g_iload2 dX8_next_236 (g_iconst ki_4 dX8_next_237 (g_icmp_le (tgt := 245) dX8_next_238 (by decide) (fun h238 => g_iconst ki_2 dX8_next_245 (g_mput fl_X8_155 fp_7_25 ms_25 rfl rfl rfl dX8_next_246 (g_goto (tgt := 321) dX8_next_249 (by decide) (g_vret rfl dX8_next_321 (Nat.le_of_ble_eq_true rfl) (Nat.le_of_ble_eq_true rfl) ?q321_9)))) (fun h238 => g_iconst ki_4 dX8_next_241 (g_goto (tgt := 246) dX8_next_242 (by decide) (g_mput fl_X8_155 fp_7_25 ms_25 rfl rfl rfl dX8_next_246 (g_goto (tgt := 321) dX8_next_249 (by decide) (g_vret rfl dX8_next_321 (Nat.le_of_ble_eq_true rfl) (Nat.le_of_ble_eq_true rfl) ?q321_9'))))))))) (fun h178 => g_aload0 dX8_next_181 (g_iload2 dX8_next_182 (g_iconst ki_4 dX8_next_183 (g_icmp_ge (tgt := 212) dX8_next_184 (by decide) (fun h184 => g_aload0 dX8_next_212 (g_mget fl_X8_166 mg_27 dX8_next_213 (g_mput fl_X8_166 fp_7_27 ms_27 rfl rfl rfl dX8_next_216 (?s219_9)))) (fun h184 => g_ldc2_w kj_X8_112 dX8_next_187 (g_aload0 dX8_next_190 (g_mget fl_X8_166 mg_27 dX8_next_191 (g_lmul dX8_next_194 (g_aload0 dX8_next_195 (g_aload0 dX8_next_196 (g_mget fl_X8_146 mg_24 dX8_next_197 (?c200_9))))))))))))))))
      all_goals try simp only [g_biz, Int32.toInt_toInt64, tl_m4611686018427387904, tl_m1, tl_0, tl_1, tl_2, tl_3, tl_4, tl_5, tl_9, tl_10, tl_20, tl_40, tl_43, tl_48, tl_57, tl_60, tl_97, tl_99, tl_122, tl_255] at *
      case s219_9 => exact step _ (fun q => by omega)
      case q321_9 => omega
      case q321_9' => omega
      case c200_9 =>
        rw [k24]
        refine g_V1i dX8_next_200 mv_X8_149 0 rfl rfl rfl (Nat.le_of_ble_eq_true rfl) (Nat.le_of_ble_eq_true rfl) (c_X8_byteAt (d := d + 1) hN (hB.ag hag rfl rfl) (by omega)) (fun r1 w1 hq => ?_)
        obtain ⟨rfl, rfl⟩ := hq
        refine g_i2l dX8_next_203 (g_ladd dX8_next_204 (g_ldc2_w kj_X8_162 dX8_next_205 (g_lsub dX8_next_208 (g_goto (tgt := 216) dX8_next_209 (by decide) (g_mput fl_X8_166 fp_7_27 ms_27 rfl rfl rfl dX8_next_216 (?s219_10))))))
        refine step _ (fun q => ?_)
        obtain ⟨q1, q2⟩ := hval (by omega)
        have hp4 : 10 ^ (p - s) ≤ 10 ^ 4 := Nat.pow_le_pow_right (by omega) (by omega)
        have hp1 : 10 ^ (p + 1 - s) = 10 ^ (p - s) * 10 := by rw [show p + 1 - s = p - s + 1 by omega, Nat.pow_succ]
        rw [slc_snoc hsp hy, nval_snoc]
        have hm : (10 * t2).toInt = 10 * nval (slc B s p) := by
          rw [Int64.toInt_mul, q1, tl_10]
          exact Int.bmod_eq_of_le (by omega) (by omega)
        have ha : (10 * t2 + (byI B p).toInt64).toInt = 10 * nval (slc B s p) + y := by
          rw [Int64.toInt_add, hm, Int32.toInt_toInt64, hbf.1]
          exact Int.bmod_eq_of_le (by omega) (by omega)
        refine ⟨?_, by omega⟩
        rw [Int64.toInt_sub, ha, tl_48]
        rw [Int.bmod_eq_of_le (by omega) (by omega)]
        omega
  have m47 : ∀ v2 l1 l2, v2 24 = nI s → v2 26 = nI s → agV [24, 25, 26] v v2 → G E mX8_next (d + 3) 0 0 A Q 0 0 47 [some (.ref (b 0)), l1, l2] [] (mW E b v2 t f) := by
    intro v2 l1 l2 k24 k26 hag
    refine g_aload0 dX8_next_47 (g_aload0 dX8_next_48 (g_mget fl_X8_146 mg_24 dX8_next_49 (?c52_11)))
    rw [k24]
    refine g_V1i dX8_next_52 mv_X8_149 0 rfl rfl rfl (Nat.le_of_ble_eq_true rfl) (Nat.le_of_ble_eq_true rfl) (c_X8_byteAt (d := d + 1) hN (hB.ag hag rfl rfl) (by omega)) (fun r1 w1 hq => ?_)
    obtain ⟨rfl, rfl⟩ := hq
    by_cases hsl : s < B.length
    · obtain ⟨y, hy⟩ : ∃ y, B[s]? = some y := ⟨B[s], List.getElem?_eq_getElem hsl⟩
      have hbf := bfact s y hy
      have hsg := sgnF_spec y 8 0
      have sg : ∀ j, j < 8 → sgL.getD j 0 = y → ∀ v3, v3 24 = nI s → v3 26 = nI s → agV [24, 25, 26] v v3 → ¬ letB y = true → ¬ digB y = true → G E mX8_next (d + 3) 0 0 A Q 0 0 300 [some (.ref (b 0)), some (.int (byI B s)), l2] [] (mW E b v3 t f) := by
        intro j hj hjy v3 j24 j26 hag3 n1 n2
        refine g_aload0 dX8_next_300 (g_iconst ki_3 dX8_next_301 (g_mput fl_X8_155 fp_7_25 ms_25 rfl rfl rfl dX8_next_302 (g_aload0 dX8_next_305 (g_iload1 dX8_next_306 (g_i2l dX8_next_307 (g_mput fl_X8_166 fp_7_27 ms_27 rfl rfl rfl dX8_next_308 (g_aload0 dX8_next_311 (g_dup dX8_next_312 rfl (g_mget fl_X8_146 mg_24 dX8_next_313 (g_iconst ki_1 dX8_next_316 (g_iadd dX8_next_317 (g_mput fl_X8_146 fp_7_24 ms_24 rfl rfl rfl dX8_next_318 (g_vret rfl dX8_next_321 (Nat.le_of_ble_eq_true rfl) (Nat.le_of_ble_eq_true rfl) ?q321_12)))))))))))))
        rw [hy] at hQ
        dsimp only at hQ
        rw [if_neg n1, if_neg n2] at hQ
        refine hQ _ ⟨_, _, rfl, (hag3.up 25 _ rfl).up 24 _ rfl, ?_, by dsimp only; omega, by dsimp only; omega, Or.inr (Or.inr (Or.inr (Or.inl ⟨y, sgnF y 0 8 - 12, ?_, ?_, by dsimp only; omega, ?_, ?_, ?_⟩)))⟩
        · rw [upd_o (by decide), upd_o (by decide)]; exact j26
        · rw [upd_o (by decide), upd_s]
        · rw [upd_s, upd_o (by decide), j24, nI_1]
        · rw [Int32.toInt_toInt64]; exact hbf.1
        · rcases hsg with ⟨i, i1, i2, i3⟩ | ⟨i1, i2⟩
          · rw [i3, show 12 + (0 + i) - 12 = 0 + i by omega]
            rw [← i2, List.getD_eq_getElem?_getD]
            have : 0 + i < sgL.length := by have : sgL.length = 8 := rfl; omega
            rw [List.getElem?_eq_getElem this]; rfl
          · exact absurd (by rw [Nat.zero_add]; exact hjy) (i1 j hj)
        · rcases hsg with ⟨i, i1, i2, i3⟩ | ⟨i1, i2⟩
          · dsimp only; omega
          · exact absurd (by rw [Nat.zero_add]; exact hjy) (i1 j hj)
      have k25 : ∀ x, upd v2 25 x 24 = nI s ∧ upd v2 25 x 26 = nI s ∧ agV [24, 25, 26] v (upd v2 25 x) := fun x => ⟨by rw [upd_o (by decide)]; exact k24, by rw [upd_o (by decide)]; exact k26, hag.up 25 x rfl⟩
      refine g_istore1 dX8_next_55 rfl rfl (g_aload0 dX8_next_56 (g_iconst ki_4 dX8_next_57 (g_mput fl_X8_155 fp_7_25 ms_25 rfl rfl rfl dX8_next_58 (g_iload1 dX8_next_61 (g_if_ge (tgt := 81) dX8_next_62 (by decide) (fun h62 => g_iload1 dX8_next_81 (g_i2l dX8_next_82 (g_ldc2_w kj_X8_158 dX8_next_83 (g_ldc2_w kj_X8_160 dX8_next_86 (r_X8_in hN mv_X8_106 dX8_next_89 (Nat.le_of_ble_eq_true rfl) (Nat.le_of_ble_eq_true rfl) rfl (g_if_eq (tgt := 134) dX8_next_92 (by decide) (fun h92 => g_iload1 dX8_next_134 (g_i2l dX8_next_135 (g_ldc2_w kj_X8_162 dX8_next_136 (g_ldc2_w kj_X8_164 dX8_next_139 (r_X8_in hN mv_X8_106 dX8_next_142 (Nat.le_of_ble_eq_true rfl) (Nat.le_of_ble_eq_true rfl) rfl (g_if_eq (tgt := 252) dX8_next_145 (by decide) (fun h145 => ?s252_13) (fun h145 => ?s148_13))))))) (fun h92 => ?s95_13))))))) (fun h62 => g_aload0 dX8_next_65 (g_iconst ki_0 dX8_next_66 (g_mput fl_X8_155 fp_7_25 ms_25 rfl rfl rfl dX8_next_67 (g_aload0 dX8_next_70 (g_aload0 dX8_next_71 (g_mget fl_X8_140 mg_23 dX8_next_72 (g_mput fl_X8_152 fp_7_26 ms_26 rfl rfl rfl dX8_next_75 (g_goto (tgt := 321) dX8_next_78 (by decide) (g_vret rfl dX8_next_321 (Nat.le_of_ble_eq_true rfl) (Nat.le_of_ble_eq_true rfl) ?q321_13))))))))))))))
      all_goals try simp only [g_biz, Int32.toInt_toInt64, tl_m4611686018427387904, tl_m1, tl_0, tl_1, tl_2, tl_3, tl_4, tl_5, tl_9, tl_10, tl_20, tl_40, tl_43, tl_48, tl_57, tl_60, tl_97, tl_99, tl_122, tl_255] at *
      case s95_13 =>
        have hlb : letB y = true := decide_eq_true (by omega)
        refine g_aload0 dX8_next_95 (g_iconst ki_1 dX8_next_96 (g_mput fl_X8_155 fp_7_25 ms_25 rfl rfl rfl dX8_next_97 (?s100_14)))
        have hsc := scan_yes hy hlb
        have hsg := scan_ge letB B (s + 1)
        refine wloop (scan letB B s - s) s _ _ _ (by omega) (Nat.le_refl _) rfl ?_ upd_s ?_ ?_ ⟨y, hy, hlb⟩ (by omega)
        · rw [upd_o (by decide)]; exact (k25 4).1
        · rw [upd_o (by decide)]; exact (k25 4).2.1
        · exact (k25 4).2.2.up 25 _ rfl
      case s148_13 =>
        have hlb : letB y = false := decide_eq_false (by omega)
        have hdb : digB y = true := decide_eq_true (by omega)
        refine g_aload0 dX8_next_148 (g_iconst ki_2 dX8_next_149 (g_mput fl_X8_155 fp_7_25 ms_25 rfl rfl rfl dX8_next_150 (g_aload0 dX8_next_153 (g_lconst kl_0 dX8_next_154 (g_mput fl_X8_166 fp_7_27 ms_27 rfl rfl rfl dX8_next_155 (g_iconst ki_0 dX8_next_158 (g_istore2 dX8_next_159 rfl rfl (?s160_15))))))))
        have hsc := scan_yes hy hdb
        have hsg := scan_ge digB B (s + 1)
        have := nloop (scan digB B s - s) s (upd (upd v2 25 4) 25 2) 0 (byI B s) (by omega) (Nat.le_refl _) rfl (by rw [upd_o (by decide)]; exact (k25 4).1) (by rw [upd_o (by decide)]; exact (k25 4).2.1) ((k25 4).2.2.up 25 _ rfl) ⟨y, hy, hdb, hlb⟩ (by omega) (fun _ => by rw [slc_nil, Nat.sub_self]; exact ⟨by decide, by decide⟩)
        rw [Nat.sub_self] at this
        exact this
      case s252_13 =>
        have hlb : ¬ letB y = true := fun q => by have := of_decide_eq_true q; omega
        have hdb : ¬ digB y = true := fun q => by have := of_decide_eq_true q; omega
        have sg2 := fun j hj hjy => sg j hj hjy _ (k25 4).1 (k25 4).2.1 (k25 4).2.2 hlb hdb
        clear sg
        refine g_iload1 dX8_next_252 (g_bipush kb_40 dX8_next_253 (g_icmp_eq (tgt := 300) dX8_next_255 (by decide) (fun h255 => ?s300_16) (fun h255 => g_iload1 dX8_next_258 (g_bipush kb_41 dX8_next_259 (g_icmp_eq (tgt := 300) dX8_next_261 (by decide) (fun h261 => ?s300_16') (fun h261 => g_iload1 dX8_next_264 (g_bipush kb_59 dX8_next_265 (g_icmp_eq (tgt := 300) dX8_next_267 (by decide) (fun h267 => ?s300_16'') (fun h267 => g_iload1 dX8_next_270 (g_bipush kb_43 dX8_next_271 (g_icmp_eq (tgt := 300) dX8_next_273 (by decide) (fun h273 => ?s300_16''') (fun h273 => g_iload1 dX8_next_276 (g_bipush kb_45 dX8_next_277 (g_icmp_eq (tgt := 300) dX8_next_279 (by decide) (fun h279 => ?s300_16'''') (fun h279 => g_iload1 dX8_next_282 (g_bipush kb_42 dX8_next_283 (g_icmp_eq (tgt := 300) dX8_next_285 (by decide) (fun h285 => ?s300_16''''') (fun h285 => g_iload1 dX8_next_288 (g_bipush kb_60 dX8_next_289 (g_icmp_eq (tgt := 300) dX8_next_291 (by decide) (fun h291 => ?s300_16'''''') (fun h291 => g_iload1 dX8_next_294 (g_bipush kb_61 dX8_next_295 (g_icmp_ne (tgt := 321) dX8_next_297 (by decide) (fun h297 => g_vret rfl dX8_next_321 (Nat.le_of_ble_eq_true rfl) (Nat.le_of_ble_eq_true rfl) ?q321_16) (fun h297 => ?s300_16'''''''))))))))))))))))))))))))
        case s300_16 => exact sg2 0 (by omega) (by show 40 = y; omega)
        case s300_16' => exact sg2 1 (by omega) (by show 41 = y; omega)
        case s300_16'' => exact sg2 2 (by omega) (by show 59 = y; omega)
        case s300_16''' => exact sg2 3 (by omega) (by show 43 = y; omega)
        case s300_16'''' => exact sg2 4 (by omega) (by show 45 = y; omega)
        case s300_16''''' => exact sg2 5 (by omega) (by show 42 = y; omega)
        case s300_16'''''' => exact sg2 6 (by omega) (by show 60 = y; omega)
        case s300_16''''''' => exact sg2 7 (by omega) (by show 61 = y; omega)
        case q321_16 =>
          rw [hy] at hQ
          dsimp only at hQ
          rw [if_neg hlb, if_neg hdb] at hQ
          refine hQ _ ⟨_, t, rfl, (k25 4).2.2, (k25 4).2.1, by dsimp only; omega, by dsimp only; omega, Or.inr (Or.inr (Or.inr (Or.inr ⟨?_, upd_s⟩)))⟩
          dsimp only
          rcases hsg with ⟨i, i1, i2, i3⟩ | ⟨i1, i2⟩
          · exfalso
            have : ∀ i, i < 8 → sgL.getD (0 + i) 0 = 40 ∨ sgL.getD (0 + i) 0 = 41 ∨ sgL.getD (0 + i) 0 = 59 ∨ sgL.getD (0 + i) 0 = 43 ∨ sgL.getD (0 + i) 0 = 45 ∨ sgL.getD (0 + i) 0 = 42 ∨ sgL.getD (0 + i) 0 = 60 ∨ sgL.getD (0 + i) 0 = 61 := by decide
            have := this i i1
            omega
          · exact i2
      all_goals omega
    · have hb := bnone s hsl
      have hs : s = B.length := by omega
      refine g_istore1 dX8_next_55 rfl rfl (g_aload0 dX8_next_56 (g_iconst ki_4 dX8_next_57 (g_mput fl_X8_155 fp_7_25 ms_25 rfl rfl rfl dX8_next_58 (g_iload1 dX8_next_61 (g_if_ge (tgt := 81) dX8_next_62 (by decide) (fun h62 => ?s81_17) (fun h62 => g_aload0 dX8_next_65 (g_iconst ki_0 dX8_next_66 (g_mput fl_X8_155 fp_7_25 ms_25 rfl rfl rfl dX8_next_67 (g_aload0 dX8_next_70 (g_aload0 dX8_next_71 (g_mget fl_X8_140 mg_23 dX8_next_72 (g_mput fl_X8_152 fp_7_26 ms_26 rfl rfl rfl dX8_next_75 (g_goto (tgt := 321) dX8_next_78 (by decide) (g_vret rfl dX8_next_321 (Nat.le_of_ble_eq_true rfl) (Nat.le_of_ble_eq_true rfl) ?q321_17))))))))))))))
      case s81_17 => omega
      case q321_17 =>
        rw [List.getElem?_eq_none (by omega)] at hQ
        refine hQ _ ⟨_, t, rfl, ((hag.up 25 _ rfl).up 25 _ rfl).up 26 _ rfl, ?_, by dsimp only; omega, by dsimp only; omega, Or.inl ⟨rfl, ?_, hs⟩⟩
        · rw [upd_s, upd_o (by decide), upd_o (by decide), hag.at 23 rfl, h5, hs]
        · rw [upd_o (by decide), upd_s]
  have bloop : ∀ u p v2 l1 l2, p + u = s → scan blankB B p = s → v2 24 = nI p → agV [24, 25, 26] v v2 → G E mX8_next (d + 3) 0 0 A Q 0 0 0 [some (.ref (b 0)), l1, l2] [] (mW E b v2 t f) := by
    intro u
    induction u with
    | zero =>
      intro p v2 l1 l2 hpu hsc k24 hag
      have hps : p = s := by omega
      subst hps
      have hno : ¬ ((byI B p).toInt = 32 ∨ (byI B p).toInt = 10) := by
        intro q
        by_cases hpl : p < B.length
        · obtain ⟨x, hx⟩ : ∃ x, B[p]? = some x := ⟨B[p], List.getElem?_eq_getElem hpl⟩
          have hbf := bfact p x hx
          have hl : blankB x = true := by
            unfold blankB
            rcases q with q | q
            · rw [show x = 32 by omega]; rfl
            · rw [show x = 10 by omega]; rfl
          have := scan_yes hx hl
          have := scan_ge blankB B (p + 1)
          omega
        · have := bnone p hpl
          omega
      refine g_aload0 dX8_next_0 (g_aload0 dX8_next_1 (g_mget fl_X8_146 mg_24 dX8_next_2 (?c5_18)))
      rw [k24]
      refine g_V1i dX8_next_5 mv_X8_149 0 rfl rfl rfl (Nat.le_of_ble_eq_true rfl) (Nat.le_of_ble_eq_true rfl) (c_X8_byteAt (d := d + 1) hN (hB.ag hag rfl rfl) (by omega)) (fun r1 w1 hq => ?_)
      obtain ⟨rfl, rfl⟩ := hq
      refine g_bipush kb_32 dX8_next_8 (g_icmp_eq (tgt := 26) dX8_next_10 (by decide) (fun h10 => ?s26_19) (fun h10 => g_aload0 dX8_next_13 (g_aload0 dX8_next_14 (g_mget fl_X8_146 mg_24 dX8_next_15 (?c18_19)))))
      case s26_19 => omega
      case c18_19 =>
        rw [k24]
        refine g_V1i dX8_next_18 mv_X8_149 0 rfl rfl rfl (Nat.le_of_ble_eq_true rfl) (Nat.le_of_ble_eq_true rfl) (c_X8_byteAt (d := d + 1) hN (hB.ag hag rfl rfl) (by omega)) (fun r1 w1 hq => ?_)
        obtain ⟨rfl, rfl⟩ := hq
        refine g_bipush kb_10 dX8_next_21 (g_icmp_ne (tgt := 39) dX8_next_23 (by decide) (fun h23 => g_aload0 dX8_next_39 (g_aload0 dX8_next_40 (g_mget fl_X8_146 mg_24 dX8_next_41 (g_mput fl_X8_152 fp_7_26 ms_26 rfl rfl rfl dX8_next_44 (?s47_20))))) (fun h23 => ?s26_20))
        case s26_20 => omega
        case s47_20 =>
          refine m47 _ _ _ ?_ ?_ (hag.up 26 _ rfl)
          · rw [upd_o (by decide)]; exact k24
          · rw [upd_s]; exact k24
    | succ u ih =>
      intro p v2 l1 l2 hpu hsc k24 hag
      obtain ⟨y, hy⟩ : ∃ y, B[p]? = some y := ⟨B[p], List.getElem?_eq_getElem (by omega)⟩
      have hbf := bfact p y hy
      have hlb : blankB y = true := by
        by_cases q : blankB y = true
        · exact q
        · have := scan_no (P := blankB) (T := B) (p := p) (fun c hc => by rw [hy] at hc; cases hc; simpa using q)
          omega
      have hlb2 : y = 32 ∨ y = 10 := by
        unfold blankB at hlb
        simpa using hlb
      have nx : G E mX8_next (d + 3) 0 0 A Q 0 0 26 [some (.ref (b 0)), l1, l2] [] (mW E b v2 t f) := by
        refine g_aload0 dX8_next_26 (g_dup dX8_next_27 rfl (g_mget fl_X8_146 mg_24 dX8_next_28 (g_iconst ki_1 dX8_next_31 (g_iadd dX8_next_32 (g_mput fl_X8_146 fp_7_24 ms_24 rfl rfl rfl dX8_next_33 (g_goto (tgt := 0) dX8_next_36 (by decide) (?s0_21)))))))
        rw [k24, nI_1]
        exact ih (p + 1) _ _ _ (by omega) (by rw [← hsc]; exact (scan_yes hy hlb).symm) upd_s (hag.up 24 _ rfl)
      refine g_aload0 dX8_next_0 (g_aload0 dX8_next_1 (g_mget fl_X8_146 mg_24 dX8_next_2 (?c5_22)))
      rw [k24]
      refine g_V1i dX8_next_5 mv_X8_149 0 rfl rfl rfl (Nat.le_of_ble_eq_true rfl) (Nat.le_of_ble_eq_true rfl) (c_X8_byteAt (d := d + 1) hN (hB.ag hag rfl rfl) (by omega)) (fun r1 w1 hq => ?_)
      obtain ⟨rfl, rfl⟩ := hq
      refine g_bipush kb_32 dX8_next_8 (g_icmp_eq (tgt := 26) dX8_next_10 (by decide) (fun h10 => ?s26_23) (fun h10 => g_aload0 dX8_next_13 (g_aload0 dX8_next_14 (g_mget fl_X8_146 mg_24 dX8_next_15 (?c18_23)))))
      case s26_23 => exact nx
      case c18_23 =>
        rw [k24]
        refine g_V1i dX8_next_18 mv_X8_149 0 rfl rfl rfl (Nat.le_of_ble_eq_true rfl) (Nat.le_of_ble_eq_true rfl) (c_X8_byteAt (d := d + 1) hN (hB.ag hag rfl rfl) (by omega)) (fun r1 w1 hq => ?_)
        obtain ⟨rfl, rfl⟩ := hq
        refine g_bipush kb_10 dX8_next_21 (g_icmp_ne (tgt := 39) dX8_next_23 (by decide) (fun h23 => ?s39_24) (fun h23 => ?s26_24))
        case s26_24 => exact nx
        case s39_24 => omega
  exact bloop (s - p0) p0 v _ _ (by omega) hg h24 agV.rf
end S75
