/-! the class itself: dogs -/
abbrev dolO (a : Nat → Nat) (im tc : Int32) : va_E := .inr (6, [.ref (a 1), .ref (a 13), .int im, .ref (a 25), .ref (a 31), .ref (a 37), .ref (a 42), .ref (a 48), .int tc, .ref (a 49), .ref (a 50), .ref (a 51), .ref (a 52), .ref (a 53)])
/-- the object, the dogs, the plait -/
def Apk (E : GE) (a : Nat → Nat) (D : Dg) (r : Nat) (L : List Cr) (im tc : Int32) (w : va_W) : Prop := ∃ wp wr, Pck E a 1 D r wp ∧ Row E a 7 L wr ∧ w = (a 0, dolO a im tc) :: (wp ++ wr)
theorem set_split {ws : va_W} {j : Nat} {c c' : Nat × va_E} (h : ws[j]? = some c) : ws = List.take j ws ++ ([c] ++ List.drop (j + 1) ws) ∧ ws.set j c' = List.take j ws ++ ([c'] ++ List.drop (j + 1) ws) := by
  obtain ⟨hlt, rfl⟩ := List.getElem?_eq_some_iff.mp h
  refine ⟨?_, ?_⟩
  · rw [List.singleton_append, ← List.drop_eq_getElem_cons hlt, List.take_append_drop]
  · rw [List.set_eq_take_append_cons_drop, if_pos hlt]; rfl
section S40
variable {E : GE} {M : GM} {d mc ms : Nat} {A : Nat → Prop} {Q : Option Value → va_W → Prop} {k n pc : Nat} {ls : List (Option Value)} {st : List Value} {ws : va_W}
set_option maxRecDepth 20000 in
theorem c_replace (hN : g_N E) (x m : Nat) (f : Nat → Int32) {i : Int32} (hi : 0 ≤ i.toInt ∧ i.toInt < m) (v : Int32) : g_Ci E mX7_replace (d + 1) [.ref x, .int i, .int v] [(x, ia E m f)] (fun r w => r = f i.toInt.toNat ∧ w = [(x, ia E m (upd f i.toInt.toNat v))]) := by
  refine g_enterI hN.1 (by decide) [some (.ref x), some (.int i), some (.int v), none] rfl (Nat.le_of_ble_eq_true rfl) (fun A Q hQ => ?_)
  skip
  refine g_aload0 dX7_replace_0 (g_iload1 dX7_replace_1 (g_iaload 0 rfl dX7_replace_2 ?b2 (g_istore3 dX7_replace_3 rfl rfl (g_aload0 dX7_replace_4 (g_iload1 dX7_replace_5 (g_iload2 dX7_replace_6 (g_iastore 0 rfl dX7_replace_7 ?b7 (g_iload3 dX7_replace_8 (g_iret rfl dX7_replace_9 (Nat.le_of_ble_eq_true rfl) (Nat.le_of_ble_eq_true rfl) ?q9)))))))))
  case q9 => exact hQ _ _ ⟨rfl, rfl⟩
  all_goals omega
theorem r_replace (hN : g_N E) {idx x m : Nat} {f : Nat → Int32} {i v : Int32} (j : Nat) (he : ws[j]? = some (x, ia E m f)) (hi : 0 ≤ i.toInt ∧ i.toInt < m) (hm : MS M.1.cls idx mX7_replace 3) (hd : decode M.2.1 pc = .ok (.invokestatic idx, 3)) (hk : k ≤ mc) (hn : n ≤ ms) (hr : Nat.ble (st.map fun v => v.category).sum 8 = true) (kk : G E M (d + 2) mc ms A Q k n (pc + 3) ls (.int (f i.toInt.toNat) :: st) (ws.set j (x, ia E m (upd f i.toInt.toNat v)))) : G E M (d + 2) mc ms A Q k n pc ls (.int v :: .int i :: .ref x :: st) ws := by
  have h1 := set_split (c' := (x, ia E m (upd f i.toInt.toNat v))) he
  rw [h1.1]
  refine g_S3i hd hm hr hk hn ((c_replace hN x m f hi v).frame (X := List.take j ws) (Y := List.drop (j + 1) ws)) (fun r w hq => ?_)
  obtain ⟨w1, ⟨rfl, rfl⟩, rfl⟩ := hq
  rw [← h1.2]
  exact kk
end S40
section S40b
variable {E : GE} {d : Nat} {a : Nat → Nat} {D : Dg} {r : Nat} {L : List Cr} {im tc : Int32} {w : va_W} {adK adV ta : Nat → Nat}
theorem Apk.lit (h : Apk E a D r L im tc w) : ∃ kd pc nb hs od pl ov on ot be, w = (a 0, dolO a im tc) :: (packW E a 1 kd pc nb hs od (nI D.1.length) (nI r) ++ rowW E a 7 pl ov on ot be (nI L.length)) ∧ dgOK D ∧ Lst D.1 kd ∧ Lst D.2.1 pc ∧ Lst D.2.2.1 nb ∧ Lst D.2.2.2.1 hs ∧ Lst D.2.2.2.2 od ∧ L.length ≤ 40 ∧ Pck E a 1 D r (packW E a 1 kd pc nb hs od (nI D.1.length) (nI r)) ∧ Row E a 7 L (rowW E a 7 pl ov on ot be (nI L.length)) := by
  obtain ⟨wp, wr, hp, hr, rfl⟩ := h
  have hp' := hp
  have hr' := hr
  obtain ⟨h0, kd, pc, nb, hs, od, rfl, h1, h2, h3, h4, h5⟩ := hp
  obtain ⟨h6, pl, ov, on, ot, be, rfl, -⟩ := hr
  exact ⟨kd, pc, nb, hs, od, pl, ov, on, ot, be, rfl, h0, h1, h2, h3, h4, h5, h6, hp', hr'⟩
set_option maxRecDepth 20000 in
theorem c_isDog (hN : g_N E) (hw : Apk E a D r L im tc w) (v : Int32) : g_Ci E mX7_isDog (d + 2) [.ref (a 0), .int v] w (fun x w' => x = g_bi (0 ≤ v.toInt ∧ v.toInt < D.1.length) ∧ w' = w) := by
  obtain ⟨kd, pc, nb, hs, od, pl, ov, on, ot, be, rfl, hD, -⟩ := hw.lit
  have hn := hD.1
  refine g_enterI hN.1 (by decide) [some (.ref (a 0)), some (.int v)] rfl (Nat.le_of_ble_eq_true rfl) (fun A Q hQ => ?_)
  have tc0 := tc_0; have tc1 := tc_1
  have e1 := t_nI (n := D.1.length) (by omega)
  have e2 : (nI D.1.length - 1).toInt = (D.1.length : Int) - 1 := by rw [t_sub (by omega) (by omega)]; omega
  refine g_iload1 dX7_isDog_0 (g_iconst ki_0 dX7_isDog_1 (g_aload0 dX7_isDog_2 (g_get fl_X7_10 0 rfl rfl dX7_isDog_3 (g_get fl_X7_110 1 rfl rfl dX7_isDog_6 (g_iconst ki_1 dX7_isDog_9 (g_isub dX7_isDog_10 (r_X7_isWithin hN mv_X7_100 dX7_isDog_11 (Nat.le_of_ble_eq_true rfl) (Nat.le_of_ble_eq_true rfl) rfl (g_zret rfl (by first | exact g_bi01 _ | exact Or.inl rfl | exact Or.inr rfl) dX7_isDog_14 (Nat.le_of_ble_eq_true rfl) (Nat.le_of_ble_eq_true rfl) ?q14))))))))
  refine hQ _ _ ⟨?_, rfl⟩
  by_cases h : 0 ≤ v.toInt ∧ v.toInt < D.1.length
  · rw [g_bi1 h, g_bi1 (by omega)]
  · rw [g_bi0 h, g_bi0 (by omega)]
set_option maxRecDepth 20000 in
theorem c_allDogs (hN : g_N E) (hw : Apk E a D r L im tc w) : g_Ci E mX7_allDogs (d + 2) [.ref (a 0)] w (fun x w' => x = nI (2 ^ D.1.length - 1) ∧ w' = w) := by
  obtain ⟨kd, pc, nb, hs, od, pl, ov, on, ot, be, rfl, hD, -⟩ := hw.lit
  have hn := hD.1
  refine g_enterI hN.1 (by decide) [some (.ref (a 0))] rfl (Nat.le_of_ble_eq_true rfl) (fun A Q hQ => ?_)
  have tc1 := tc_1
  refine g_aload0 dX7_allDogs_0 (g_get fl_X7_10 0 rfl rfl dX7_allDogs_1 (g_get fl_X7_110 1 rfl rfl dX7_allDogs_4 (r_X7_bit hN mv_X7_178 dX7_allDogs_7 (Nat.le_of_ble_eq_true rfl) (Nat.le_of_ble_eq_true rfl) rfl (g_iconst ki_1 dX7_allDogs_10 (g_isub dX7_allDogs_11 (g_iret rfl dX7_allDogs_12 (Nat.le_of_ble_eq_true rfl) (Nat.le_of_ble_eq_true rfl) ?q12))))))
  refine hQ _ _ ⟨?_, rfl⟩
  rw [bit_nI (by omega), Nat.one_shiftLeft, show (1 : Int32) = nI 1 from rfl]
  exact pk_sub (Nat.one_le_two_pow)
def sDog (D : Dg) (pl : Nat) (k w h : Int32) : Int32 × Dg :=
  if ¬ ((0 ≤ k.toInt ∧ k.toInt ≤ 5) ∧ (10 ≤ w.toInt ∧ w.toInt ≤ 99) ∧ (0 ≤ h.toInt ∧ h.toInt ≤ 99)) then (-2, D)
  else if 0 < pl then (-3, D)
  else if 6 ≤ D.1.length then (-4, D)
  else (nI D.1.length, (D.1 ++ [k.toInt.toNat], D.2.1 ++ [w.toInt.toNat / 10], D.2.2.1 ++ [w.toInt.toNat % 10], D.2.2.2.1 ++ [h.toInt.toNat], D.2.2.2.2 ++ [D.1.length]))
set_option maxRecDepth 20000 in
set_option maxHeartbeats 1000000 in
theorem c_dog (hN : g_N E) (hw : Apk E a D r L im tc w) (k v h : Int32) : g_Ci E mX7_dog (d + 2) [.ref (a 0), .int k, .int v, .int h] w (fun x w' => x = (sDog D L.length k v h).1 ∧ Apk E a (sDog D L.length k v h).2 r L im tc w') := by
  have hw' := hw
  obtain ⟨kd, pc, nb, hs, od, pl, ov, on, ot, be, rfl, hD, -, -, -, -, -, hL, hpk, hrw⟩ := hw.lit
  have hn := hD.1
  refine g_enterI hN.1 (by decide) [some (.ref (a 0)), some (.int k), some (.int v), some (.int h)] rfl (Nat.le_of_ble_eq_true rfl) (fun A Q hQ => ?_)
  have tcm4 := tc_m4; have tcm3 := tc_m3; have tcm2 := tc_m2; have tc0 := tc_0; have tc5 := tc_5; have tc6 := tc_6; have tc10 := tc_10; have tc99 := tc_99
  have e1 := t_nI (n := D.1.length) (by omega)
  have e2 := t_nI (n := L.length) (by omega)
  have z1 := g_biz (p := ((0 : Int32).toInt ≤ k.toInt ∧ k.toInt ≤ (5 : Int32).toInt))
  have z2 := g_biz (p := ((10 : Int32).toInt ≤ v.toInt ∧ v.toInt ≤ (99 : Int32).toInt))
  have z3 := g_biz (p := ((0 : Int32).toInt ≤ h.toInt ∧ h.toInt ≤ (99 : Int32).toInt))
  unfold sDog at hQ
  refine g_iload1 dX7_dog_0 (g_iconst ki_0 dX7_dog_1 (g_iconst ki_5 dX7_dog_2 (r_X7_isWithin hN mv_X7_100 dX7_dog_3 (Nat.le_of_ble_eq_true rfl) (Nat.le_of_ble_eq_true rfl) rfl (g_if_eq (tgt := 30) dX7_dog_6 (by decide) (fun h6 => g_bipush kb_m2 dX7_dog_30 (g_iret rfl dX7_dog_32 (Nat.le_of_ble_eq_true rfl) (Nat.le_of_ble_eq_true rfl) ?q32)) (fun h6 => g_iload2 dX7_dog_9 (g_bipush kb_10 dX7_dog_10 (g_bipush kb_99 dX7_dog_12 (r_X7_isWithin hN mv_X7_100 dX7_dog_14 (Nat.le_of_ble_eq_true rfl) (Nat.le_of_ble_eq_true rfl) rfl (g_if_eq (tgt := 30) dX7_dog_17 (by decide) (fun h17 => g_bipush kb_m2 dX7_dog_30 (g_iret rfl dX7_dog_32 (Nat.le_of_ble_eq_true rfl) (Nat.le_of_ble_eq_true rfl) ?q32')) (fun h17 => g_iload3 dX7_dog_20 (g_iconst ki_0 dX7_dog_21 (g_bipush kb_99 dX7_dog_22 (r_X7_isWithin hN mv_X7_100 dX7_dog_24 (Nat.le_of_ble_eq_true rfl) (Nat.le_of_ble_eq_true rfl) rfl (g_if_ne (tgt := 33) dX7_dog_27 (by decide) (fun h27 => g_aload0 dX7_dog_33 (g_get fl_X7_10 0 rfl rfl dX7_dog_34 (g_get fl_X7_104 1 rfl rfl dX7_dog_37 (g_get fl_X7_107 7 rfl rfl dX7_dog_40 (g_if_le (tgt := 49) dX7_dog_43 (by decide) (fun h43 => g_aload0 dX7_dog_49 (g_get fl_X7_10 0 rfl rfl dX7_dog_50 (g_get fl_X7_110 1 rfl rfl dX7_dog_53 (g_bipush kb_6 dX7_dog_56 (g_icmp_lt (tgt := 64) dX7_dog_58 (by decide) (fun h58 => g_aload0 dX7_dog_64 (g_get fl_X7_10 0 rfl rfl dX7_dog_65 (g_iload1 dX7_dog_68 (g_iload2 dX7_dog_69 (g_bipush kb_10 dX7_dog_70 (g_idiv dX7_dog_72 ?z72 (g_iload2 dX7_dog_73 (g_bipush kb_10 dX7_dog_74 (g_irem dX7_dog_76 ?z76 (g_iload3 dX7_dog_77 (?c78))))))))))) (fun h58 => g_bipush kb_m4 dX7_dog_61 (g_iret rfl dX7_dog_63 (Nat.le_of_ble_eq_true rfl) (Nat.le_of_ble_eq_true rfl) ?q63))))))) (fun h43 => g_bipush kb_m3 dX7_dog_46 (g_iret rfl dX7_dog_48 (Nat.le_of_ble_eq_true rfl) (Nat.le_of_ble_eq_true rfl) ?q48))))))) (fun h27 => g_bipush kb_m2 dX7_dog_30 (g_iret rfl dX7_dog_32 (Nat.le_of_ble_eq_true rfl) (Nat.le_of_ble_eq_true rfl) ?q32''))))))))))))))))
  case q32 => rw [if_pos (by omega)] at hQ; exact hQ _ _ ⟨rfl, hw'⟩
  case q32' => rw [if_pos (by omega)] at hQ; exact hQ _ _ ⟨rfl, hw'⟩
  case q32'' => rw [if_pos (by omega)] at hQ; exact hQ _ _ ⟨rfl, hw'⟩
  all_goals rw [if_neg (by omega)] at hQ
  case q48 => rw [if_pos (by omega)] at hQ; exact hQ _ _ ⟨rfl, hw'⟩
  all_goals rw [if_neg (by omega)] at hQ
  case q63 => rw [if_pos (by omega)] at hQ; exact hQ _ _ ⟨rfl, hw'⟩
  all_goals rw [if_neg (by omega)] at hQ
  case z72 => decide
  case z76 => decide
  case c78 =>
    have ek : k = nI k.toInt.toNat := t_of (by omega)
    have ev : v = nI v.toInt.toNat := t_of (by omega)
    have eh : h = nI h.toInt.toNat := t_of (by omega)
    have f1 : v / 10 = nI (v.toInt.toNat / 10) := by
      conv => lhs; rw [ev, show (10 : Int32) = nI 10 from rfl]
      exact pk_div (by omega) (by omega) (by omega)
    have f2 : v - v / 10 * 10 = nI (v.toInt.toNat % 10) := by
      conv => lhs; rw [ev, show (10 : Int32) = nI 10 from rfl]
      exact pk_rem (by omega) (by omega) (by omega)
    rw [f2, f1]
    have hj := c_pckJoin (d := d) hN hpk (by omega) (x1 := k.toInt.toNat) (x2 := v.toInt.toNat / 10) (x3 := v.toInt.toNat % 10) (x4 := h.toInt.toNat) (by omega) (by omega) (by omega) (by omega)
    rw [← ek, ← eh] at hj
    refine g_V4i dX7_dog_78 mv_X7_111 1 rfl rfl rfl (Nat.le_of_ble_eq_true rfl) (Nat.le_of_ble_eq_true rfl) (hj.frame (X := [(a 0, dolO a im tc)])) (fun r1 w1 hq => ?_)
    obtain ⟨w2, ⟨rfl, h2⟩, rfl⟩ := hq
    refine g_iret rfl dX7_dog_81 (Nat.le_of_ble_eq_true rfl) (Nat.le_of_ble_eq_true rfl) ?q81_2
    exact hQ _ _ ⟨rfl, _, _, h2, hrw, rfl⟩
end S40b
