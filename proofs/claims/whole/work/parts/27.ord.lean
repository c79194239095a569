/-! orders -/
abbrev ordW (E : GE) (a : Nat → Nat) (k : Nat) (en fd pr tr : Nat → Int32) (n le : Int32) : va_W := [(a k, .inr (0, [.ref (a (k + 1)), .ref (a (k + 2)), .ref (a (k + 3)), .ref (a (k + 4)), .int n, .int le])), (a (k + 1), ia E 6 en), (a (k + 2), ia E 6 fd), (a (k + 3), ia E 216 pr), (a (k + 4), ia E 6 tr)]
def sltN (p f l : Nat) : Nat := (p * 6 + f) * 6 + l
theorem slt_nI {p f l : Nat} (hp : p < 6) (hf : f < 6) (hl : l < 6) : ((nI p * 6 + nI f) * 6 + nI l) = nI (sltN p f l) := by
  rw [show (6 : Int32) = nI 6 from rfl, pk_mul, nI_add, pk_mul, nI_add]; rfl
theorem slt_lt {p f l : Nat} (hp : p < 6) (hf : f < 6) (hl : l < 6) : sltN p f l < 216 := by unfold sltN; omega
theorem slt_inj {p f l p' f' l' : Nat} (hf : f < 6) (hl : l < 6) (hf' : f' < 6) (hl' : l' < 6) (h : sltN p f l = sltN p' f' l') : p = p' ∧ f = f' ∧ l = l' := by unfold sltN at h; omega
theorem bset_bit (l : List Nat) (x : Nat) : (bset l).testBit x = decide (x ∈ l) := by
  have key : ∀ (l : List Nat) (s x : Nat), (l.foldl (fun s x => s ||| 1 <<< x) s).testBit x = (s.testBit x || decide (x ∈ l)) := by
    intro l
    induction l with
    | nil => intro s x; simp
    | cons y l ih =>
      intro s x
      rw [List.foldl_cons, ih, Nat.testBit_or, Nat.one_shiftLeft, Nat.testBit_two_pow, Bool.or_assoc]
      congr 1
      by_cases h : x = y
      · subst h; simp
      · simp [h, Ne.symm h]
  unfold bset
  rw [key]; simp
theorem bset_lt (l : List Nat) (h : ∀ x ∈ l, x < 6) : bset l < 64 := by
  have key : ∀ (l : List Nat) (s : Nat), s < 64 → (∀ x ∈ l, x < 6) → l.foldl (fun s x => s ||| 1 <<< x) s < 64 := by
    intro l
    induction l with
    | nil => intro s hs _; exact hs
    | cons y l ih =>
      intro s hs hl
      rw [List.foldl_cons]
      refine ih _ ?_ (fun x hx => hl x (List.mem_cons_of_mem _ hx))
      have hy := hl y List.mem_cons_self
      have : 1 <<< y < 2 ^ 6 := by rw [Nat.one_shiftLeft]; exact Nat.pow_lt_pow_right (by omega) hy
      exact Nat.or_lt_two_pow (n := 6) hs this
  exact key l 0 (by omega) h
theorem and_bit (s x : Nat) : s &&& 1 <<< x = 0 ↔ s.testBit x = false := by
  rw [Nat.one_shiftLeft]
  constructor
  · intro h
    have := congrArg (fun z => z.testBit x) h
    simpa [Nat.testBit_and, Nat.testBit_two_pow] using this
  · intro h
    apply Nat.eq_of_testBit_eq
    intro i
    rw [Nat.testBit_and, Nat.testBit_two_pow]
    by_cases hi : x = i
    · subst hi; simp [h]
    · simp [hi]
theorem bset_and {l : List Nat} {x : Nat} (hl : ∀ y ∈ l, y < 6) (hx : x < 6) : (nI (bset l) &&& (1 <<< (nI x &&& 31))).toInt = 0 ↔ x ∉ l := by
  rw [bit_nI (by omega), and_nI]
  have h1 := bset_lt l hl
  have h2 : bset l &&& 1 <<< x ≤ bset l := Nat.and_le_left
  rw [t_nI (by omega)]
  have h3 := and_bit (bset l) x
  rw [bset_bit] at h3
  constructor
  · intro h
    have := h3.mp (by omega)
    simpa using this
  · intro h
    have := h3.mpr (by simpa using h)
    omega
section S27
variable {E : GE} {d : Nat} {a : Nat → Nat} {k : Nat} {en fd pr tr : Nat → Int32} {n : Nat} {le : Int32}
set_option maxRecDepth 20000 in
theorem c_begin (hN : g_N E) {n0 : Int32} (hn : n ≤ 6) : g_Cv E mX0_begin (d + 1) [.ref (a k), .int (nI n)] (ordW E a k en fd pr tr n0 le) (fun w => ∃ en', w = ordW E a k en' fd pr tr (nI n) le ∧ ∀ j, j < 6 → en' j = 0) := by
  refine g_enterV hN.1 (by decide) [some (.ref (a k)), some (.int (nI n)), none] rfl (Nat.le_of_ble_eq_true rfl) (fun A Q hQ => ?_)
  have tc0 := tc_0; have tc1 := tc_1; have tc6 := tc_6
  have e0 := t_nI (n := n) (by omega)
  have e1 : (if nI n < 6 then nI n else 6) = nI n := by
    have := t_min 6 (nI n)
    exact t_ext (by rw [this]; omega)
  have e2 : (if (0 : Int32) < nI n then nI n else 0) = nI n := by
    have := t_max 0 (nI n)
    exact t_ext (by rw [this]; omega)
  have loop : ∀ t i f, i + t = 6 → (∀ j, j < i → f j = 0) → G E mX0_begin (d + 1) 0 0 A Q 0 0 16 [some (.ref (a k)), some (.int (nI n)), some (.int (nI i))] [] (ordW E a k f fd pr tr (nI n) le) := by
    intro t
    induction t with
    | zero =>
      intro i f hi hf
      have e3 := t_nI (n := i) (by omega)
      refine g_iload2 dX0_begin_16 (g_bipush kb_6 dX0_begin_17 (g_icmp_ge (tgt := 35) dX0_begin_19 (by decide) (fun h19 => g_vret rfl dX0_begin_35 (Nat.le_of_ble_eq_true rfl) (Nat.le_of_ble_eq_true rfl) ?q35) (fun h19 => ?s22)))
      case s22 => omega
      case q35 => exact hQ _ ⟨_, rfl, fun j hj => hf j (by omega)⟩
    | succ t ih =>
      intro i f hi hf
      have e3 := t_nI (n := i) (by omega)
      refine g_iload2 dX0_begin_16 (g_bipush kb_6 dX0_begin_17 (g_icmp_ge (tgt := 35) dX0_begin_19 (by decide) (fun h19 => g_vret rfl dX0_begin_35 (Nat.le_of_ble_eq_true rfl) (Nat.le_of_ble_eq_true rfl) ?q35_2) (fun h19 => g_aload0 dX0_begin_22 (g_get fl_X0_9 0 rfl rfl dX0_begin_23 (g_iload2 dX0_begin_26 (g_iconst ki_0 dX0_begin_27 (g_iastore 1 rfl dX0_begin_28 ?b28_2 (g_iinc2 ki_1 dX0_begin_29 rfl rfl (g_goto (tgt := 16) dX0_begin_32 (by decide) (?s16_2))))))))))
      case q35_2 => omega
      case b28_2 => omega
      case s16_2 =>
        rw [nI_1]
        refine ih (i + 1) _ (by omega) ?_
        intro j hj
        rw [e3, Int.toNat_natCast]
        by_cases hji : j = i
        · subst hji; rw [upd_s]
        · rw [upd_o hji]; exact hf j (by omega)
  refine g_aload0 dX0_begin_0 (g_iconst ki_0 dX0_begin_1 (g_bipush kb_6 dX0_begin_2 (g_iload1 dX0_begin_4 (g_mmin wm_X0_31 dX0_begin_5 (Nat.le_of_ble_eq_true rfl) (Nat.le_of_ble_eq_true rfl) rfl (g_mmax wm_X0_37 dX0_begin_8 (Nat.le_of_ble_eq_true rfl) (Nat.le_of_ble_eq_true rfl) rfl (g_put fl_X0_24 fp_0_4 0 rfl rfl rfl (Nat.le_of_ble_eq_true rfl) dX0_begin_11 (g_iconst ki_0 dX0_begin_14 (g_istore2 dX0_begin_15 rfl rfl (?s16_3)))))))))
  rw [e1, e2]
  exact loop 6 0 en rfl (fun j h => absurd h (Nat.not_lt_zero j))
set_option maxRecDepth 20000 in
theorem c_price (hN : g_N E) {p f l : Nat} (hp : p < 6) (hf : f < 6) (hl : l < 6) (n0 v : Int32) : g_Cv E mX0_price (d + 2) [.ref (a k), .int (nI p), .int (nI f), .int (nI l), .int v] (ordW E a k en fd pr tr n0 le) (fun w => w = ordW E a k en fd (upd pr (sltN p f l) v) tr n0 le) := by
  refine g_enterV hN.1 (by decide) [some (.ref (a k)), some (.int (nI p)), some (.int (nI f)), some (.int (nI l)), some (.int v)] rfl (Nat.le_of_ble_eq_true rfl) (fun A Q hQ => ?_)
  skip
  have e1 := slt_nI hp hf hl
  have e2 := slt_lt hp hf hl
  have e3 := t_nI (n := sltN p f l) (by omega)
  refine g_aload0 dX0_price_0 (g_get fl_X0_18 0 rfl rfl dX0_price_1 (g_iload1 dX0_price_4 (g_iload2 dX0_price_5 (g_iload3 dX0_price_6 (r_X0_slot hN mv_X0_40 dX0_price_7 (Nat.le_of_ble_eq_true rfl) (Nat.le_of_ble_eq_true rfl) rfl (g_iload4 dX0_price_10 (g_iastore 3 rfl dX0_price_12 ?b12 (g_vret rfl dX0_price_13 (Nat.le_of_ble_eq_true rfl) (Nat.le_of_ble_eq_true rfl) ?q13))))))))
  case b12 => rw [e1]; omega
  case q13 => rw [e1, e3, Int.toNat_natCast]; exact hQ _ rfl
set_option maxRecDepth 20000 in
theorem c_priceEverywhere (hN : g_N E) {f l : Nat} (hn : n ≤ 6) (hf : f < 6) (hl : l < 6) (v : Int32) : g_Cv E mX0_priceEverywhere (d + 3) [.ref (a k), .int (nI f), .int (nI l), .int v] (ordW E a k en fd pr tr (nI n) le) (fun w => ∃ pr', w = ordW E a k en fd pr' tr (nI n) le ∧ (∀ p, p < n → pr' (sltN p f l) = v) ∧ ∀ j, (∀ p, p < n → j ≠ sltN p f l) → pr' j = pr j) := by
  refine g_enterV hN.1 (by decide) [some (.ref (a k)), some (.int (nI f)), some (.int (nI l)), some (.int v), none] rfl (Nat.le_of_ble_eq_true rfl) (fun A Q hQ => ?_)
  have tc0 := tc_0; have tc1 := tc_1
  have e0 := t_nI (n := n) (by omega)
  have loop : ∀ t i q, i + t = n → (∀ p, p < i → q (sltN p f l) = v) → (∀ j, (∀ p, p < n → j ≠ sltN p f l) → q j = pr j) → G E mX0_priceEverywhere (d + 3) 0 0 A Q 0 0 3 [some (.ref (a k)), some (.int (nI f)), some (.int (nI l)), some (.int v), some (.int (nI i))] [] (ordW E a k en fd q tr (nI n) le) := by
    intro t
    induction t with
    | zero =>
      intro i q hi h1 h2
      have e3 := t_nI (n := i) (by omega)
      refine g_iload4 dX0_priceEverywhere_3 (g_aload0 dX0_priceEverywhere_5 (g_get fl_X0_24 0 rfl rfl dX0_priceEverywhere_6 (g_icmp_ge (tgt := 27) dX0_priceEverywhere_9 (by decide) (fun h9 => g_vret rfl dX0_priceEverywhere_27 (Nat.le_of_ble_eq_true rfl) (Nat.le_of_ble_eq_true rfl) ?q27) (fun h9 => ?s12))))
      case s12 => omega
      case q27 => exact hQ _ ⟨_, rfl, fun p hp => h1 p (by omega), h2⟩
    | succ t ih =>
      intro i q hi h1 h2
      have e3 := t_nI (n := i) (by omega)
      refine g_iload4 dX0_priceEverywhere_3 (g_aload0 dX0_priceEverywhere_5 (g_get fl_X0_24 0 rfl rfl dX0_priceEverywhere_6 (g_icmp_ge (tgt := 27) dX0_priceEverywhere_9 (by decide) (fun h9 => ?s27_2) (fun h9 => g_aload0 dX0_priceEverywhere_12 (g_iload4 dX0_priceEverywhere_13 (g_iload1 dX0_priceEverywhere_15 (g_iload2 dX0_priceEverywhere_16 (g_iload3 dX0_priceEverywhere_17 (?c18_2)))))))))
      case s27_2 => omega
      case c18_2 =>
        refine g_V4v dX0_priceEverywhere_18 mv_X0_44 0 rfl rfl rfl (Nat.le_of_ble_eq_true rfl) (Nat.le_of_ble_eq_true rfl) (c_price hN (by omega) hf hl _ v) (fun w1 hq => ?_)
        subst hq
        refine g_iinc4 ki_1 dX0_priceEverywhere_21 rfl rfl (g_goto (tgt := 3) dX0_priceEverywhere_24 (by decide) (?s3_3))
        rw [nI_1]
        refine ih (i + 1) _ (by omega) ?_ ?_
        · intro p hp
          by_cases hpi : p = i
          · subst hpi; rw [upd_s]
          · rw [upd_o (fun q => hpi (slt_inj hf hl hf hl q).1)]; exact h1 p (by omega)
        · intro j hj
          rw [upd_o (hj i (by omega))]; exact h2 j hj
  refine g_iconst ki_0 dX0_priceEverywhere_0 (g_istore4 dX0_priceEverywhere_1 rfl rfl (?s3_4))
  exact loop n 0 pr (by omega) (fun p h => absurd h (Nat.not_lt_zero p)) (fun _ _ => rfl)
/-- what the next dog costs behind those of l -/
def cstN (n : Nat) (pP : Nat → Nat → Nat → Nat) (eP : Nat → Nat) (l : List Nat) (x : Nat) : Nat := (if l = [] then eP x else pP (l.length - 1) (l.getLastD 0) x) + (if l.length + 1 = n then eP x else 0)
def extF (n : Nat) (cst : List Nat → Nat → Nat) : Nat → List Nat → Nat → Nat × List Nat → Nat × List Nat
  | 0, l, sum, st => if st.1 ≤ sum then st else (sum, l)
  | r + 1, l, sum, st => if st.1 ≤ sum then st else (List.range n).foldl (fun st x => if x ∈ l then st else extF n cst r (l ++ [x]) (sum + cst l x) st) st
/-- the prices and the ends as the arrays have them -/
def prIs (n : Nat) (pP : Nat → Nat → Nat → Nat) (eP : Nat → Nat) (en pr : Nat → Int32) : Prop := (∀ x, x < n → en x = nI (eP x) ∧ eP x ≤ 99) ∧ ∀ p f l, p + 1 < n → f < n → l < n → f ≠ l → pr (sltN p f l) = nI (pP p f l) ∧ pP p f l ≤ 99
theorem cst_le {n : Nat} {pP : Nat → Nat → Nat → Nat} {eP : Nat → Nat} {en pr : Nat → Int32} (h : prIs n pP eP en pr) {l : List Nat} {x : Nat} (hl : l.length < n) (hll : ∀ y ∈ l, y < n) (hx : x < n) (hxl : x ∉ l) : cstN n pP eP l x ≤ 198 := by
  unfold cstN
  have h1 := (h.1 x hx).2
  have h2 : (if l = [] then eP x else pP (l.length - 1) (l.getLastD 0) x) ≤ 99 := by
    by_cases h0 : l = []
    · rw [if_pos h0]; exact h1
    · rw [if_neg h0]
      have hm : l.getLastD 0 ∈ l := by rw [List.getLastD_eq_getLast?, List.getLast?_eq_some_getLast h0]; exact List.getLast_mem h0
      exact (h.2 _ _ _ (by have := List.length_pos_iff.mpr h0; omega) (hll _ hm) hx (fun q => hxl (q ▸ hm))).2
  have h3 : (if l.length + 1 = n then eP x else 0) ≤ 99 := by split <;> omega
  omega
set_option maxRecDepth 20000 in
theorem c_priceAt (hN : g_N E) {pP : Nat → Nat → Nat → Nat} {eP : Nat → Nat} (hn : n ≤ 6) (hpr : prIs n pP eP en pr) {l : List Nat} (hl : l.length < n) (hll : ∀ y ∈ l, y < n) (htr : Lst l tr) {x : Nat} (hx : x < n) (hxl : x ∉ l) : g_Ci E mX0_priceAt (d + 2) [.ref (a k), .int (nI l.length), .int (nI x)] (ordW E a k en fd pr tr (nI n) le) (fun r w => r = nI (cstN n pP eP l x) ∧ w = ordW E a k en fd pr tr (nI n) le) := by
  refine g_enterI hN.1 (by decide) [some (.ref (a k)), some (.int (nI l.length)), some (.int (nI x)), none] rfl (Nat.le_of_ble_eq_true rfl) (fun A Q hQ => ?_)
  have tc1 := tc_1
  have e0 := t_nI (n := n) (by omega)
  have el := t_nI (n := l.length) (by omega)
  have ex := t_nI (n := x) (by omega)
  have en1 : (nI n - 1).toInt = (n : Int) - 1 := by rw [t_sub (by omega) (by omega)]; omega
  have hex := (hpr.1 x hx).1
  have rest : ∀ v, v = (if l = [] then eP x else pP (l.length - 1) (l.getLastD 0) x) → G E mX0_priceAt (d + 2) 0 0 A Q 0 0 33 [some (.ref (a k)), some (.int (nI l.length)), some (.int (nI x)), none] [.int (nI v)] (ordW E a k en fd pr tr (nI n) le) := by
    intro v hv
    refine g_istore3 dX0_priceAt_33 rfl rfl (g_iload1 dX0_priceAt_34 (g_aload0 dX0_priceAt_35 (g_get fl_X0_24 0 rfl rfl dX0_priceAt_36 (g_iconst ki_1 dX0_priceAt_39 (g_isub dX0_priceAt_40 (g_icmp_ne (tgt := 55) dX0_priceAt_41 (by decide) (fun h41 => g_iload3 dX0_priceAt_55 (g_iret rfl dX0_priceAt_56 (Nat.le_of_ble_eq_true rfl) (Nat.le_of_ble_eq_true rfl) ?q56)) (fun h41 => g_iload3 dX0_priceAt_44 (g_aload0 dX0_priceAt_45 (g_get fl_X0_9 0 rfl rfl dX0_priceAt_46 (g_iload2 dX0_priceAt_49 (g_iaload 1 rfl dX0_priceAt_50 ?b50 (g_iadd dX0_priceAt_51 (g_goto (tgt := 56) dX0_priceAt_52 (by decide) (g_iret rfl dX0_priceAt_56 (Nat.le_of_ble_eq_true rfl) (Nat.le_of_ble_eq_true rfl) ?q56'))))))))))))))
    case b50 => omega
    case q56' =>
      rw [ex, Int.toNat_natCast, hex, nI_add]
      refine hQ _ _ ⟨?_, rfl⟩
      unfold cstN; rw [← hv, if_pos (by omega)]
    case q56 =>
      refine hQ _ _ ⟨?_, rfl⟩
      unfold cstN; rw [← hv, if_neg (by omega)]; rfl
  refine g_iload1 dX0_priceAt_0 (g_if_ne (tgt := 13) dX0_priceAt_1 (by decide) (fun h1 => g_aload0 dX0_priceAt_13 (g_get fl_X0_18 0 rfl rfl dX0_priceAt_14 (g_iload1 dX0_priceAt_17 (g_iconst ki_1 dX0_priceAt_18 (g_isub dX0_priceAt_19 (g_aload0 dX0_priceAt_20 (g_get fl_X0_21 0 rfl rfl dX0_priceAt_21 (g_iload1 dX0_priceAt_24 (g_iconst ki_1 dX0_priceAt_25 (g_isub dX0_priceAt_26 (g_iaload 4 rfl dX0_priceAt_27 ?b27_2 (g_iload2 dX0_priceAt_28 (r_X0_slot hN mv_X0_40 dX0_priceAt_29 (Nat.le_of_ble_eq_true rfl) (Nat.le_of_ble_eq_true rfl) rfl (g_iaload 3 rfl dX0_priceAt_32 ?b32_2 (?s33_2))))))))))))))) (fun h1 => g_aload0 dX0_priceAt_4 (g_get fl_X0_9 0 rfl rfl dX0_priceAt_5 (g_iload2 dX0_priceAt_8 (g_iaload 1 rfl dX0_priceAt_9 ?b9_2 (g_goto (tgt := 33) dX0_priceAt_10 (by decide) (?s33_2')))))))
  case b9_2 => omega
  case s33_2' =>
    rw [ex, Int.toNat_natCast, hex]
    exact rest _ (by rw [if_pos (List.length_eq_zero_iff.mp (by omega))])
  all_goals have h0 : l ≠ [] := fun q => by rw [q] at h1; exact absurd rfl h1
  all_goals have hp := List.length_pos_iff.mpr h0
  all_goals have el1 : nI l.length - 1 = nI (l.length - 1) := by rw [show l.length = l.length - 1 + 1 by omega, nI_pred]; rfl
  all_goals have hlast : l[l.length - 1]? = some (l.getLastD 0) := by rw [List.getLastD_eq_getLast?, List.getLast?_eq_getElem?, List.getElem?_eq_getElem (by omega)]; rfl
  all_goals have hm := List.mem_of_getElem? hlast
  all_goals have el2 := t_nI (n := l.length - 1) (by omega)
  all_goals have hy := hll _ hm
  all_goals have e5 := slt_nI (p := l.length - 1) (f := l.getLastD 0) (l := x) (by omega) (by omega) (by omega)
  all_goals have e6 := slt_lt (p := l.length - 1) (f := l.getLastD 0) (l := x) (by omega) (by omega) (by omega)
  all_goals have e7 := t_nI (n := sltN (l.length - 1) (l.getLastD 0) x) (by omega)
  case b27_2 => rw [el1]; omega
  case b32_2 => rw [el1, el2, Int.toNat_natCast, htr.at hlast, e5]; omega
  case s33_2 =>
    rw [el1, el2, Int.toNat_natCast, htr.at hlast, e5, e7, Int.toNat_natCast]
    rw [(hpr.2 _ _ _ (by omega) hy hx (fun q => hxl (q ▸ hm))).1]
    exact rest _ (by rw [if_neg h0])
end S27
