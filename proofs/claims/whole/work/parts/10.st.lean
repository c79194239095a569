section S10
variable {E : GE} {M : GM} {d mc ms : Nat} {A : Nat → Prop} {Q : Option Value → va_W → Prop} {k n pc : Nat} {ls : List (Option Value)} {st : List Value} {ws : va_W}
set_option maxRecDepth 20000 in
theorem c_X7_isWithin (hN : g_N E) (v : Int32) (lo : Int32) (hi : Int32) : g_Ci E mX7_isWithin (d + 1) [.int v, .int lo, .int hi] [] (fun r w => r = (g_bi (lo.toInt ≤ v.toInt ∧ v.toInt ≤ hi.toInt)) ∧ w = []) := by
  refine g_enter hN.1 (by decide) [some (.int v), some (.int lo), some (.int hi)] rfl (Nat.le_of_ble_eq_true rfl) (fun A => ?_)
  have tc0 := tc_0; have tc1 := tc_1
  refine g_iload0 dX7_isWithin_0 (g_iload1 dX7_isWithin_1 (g_icmp_lt (tgt := 14) dX7_isWithin_2 (by decide) (fun h2 => g_iconst ki_0 dX7_isWithin_14 (g_zret rfl (by first | exact g_bi01 _ | exact Or.inl rfl | exact Or.inr rfl) dX7_isWithin_15 (Nat.le_of_ble_eq_true rfl) (Nat.le_of_ble_eq_true rfl) ?q15)) (fun h2 => g_iload0 dX7_isWithin_5 (g_iload2 dX7_isWithin_6 (g_icmp_gt (tgt := 14) dX7_isWithin_7 (by decide) (fun h7 => g_iconst ki_0 dX7_isWithin_14 (g_zret rfl (by first | exact g_bi01 _ | exact Or.inl rfl | exact Or.inr rfl) dX7_isWithin_15 (Nat.le_of_ble_eq_true rfl) (Nat.le_of_ble_eq_true rfl) ?q15')) (fun h7 => g_iconst ki_1 dX7_isWithin_10 (g_goto (tgt := 15) dX7_isWithin_11 (by decide) (g_zret rfl (by first | exact g_bi01 _ | exact Or.inl rfl | exact Or.inr rfl) dX7_isWithin_15 (Nat.le_of_ble_eq_true rfl) (Nat.le_of_ble_eq_true rfl) ?q15''))))))))
  all_goals exact ⟨_, rfl, by first | (rw [g_bi1 (by omega)]) | (rw [g_bi0 (by omega)]), rfl⟩
theorem r_X7_isWithin (hN : g_N E) {idx : Nat} {v : Int32} {lo : Int32} {hi : Int32} (hm : MS M.1.cls idx mX7_isWithin 3) (hd : decode M.2.1 pc = .ok (.invokestatic idx, 3)) (hk : k ≤ mc) (hn : n ≤ ms) (hr : Nat.ble (st.map fun v => v.category).sum 8 = true) (kk : G E M (d + 2) mc ms A Q k n (pc + 3) ls (.int (g_bi (lo.toInt ≤ v.toInt ∧ v.toInt ≤ hi.toInt)) :: st) ws) : G E M (d + 2) mc ms A Q k n pc ls (.int hi :: .int lo :: .int v :: st) ws :=
  g_S3i hd hm hr hk hn ((c_X7_isWithin hN v lo hi).none) (fun r_ w_ hq => by obtain ⟨w1_, ⟨h1_, h2_⟩, rfl⟩ := hq; rw [List.append_nil] at h2_; rw [h1_, h2_]; exact kk)
theorem r_X7_isWithinN (hN : g_N E) {idx : Nat} {v : Int32} {lo : Int32} {hi : Int32} (hm : MSN E M.1.cls idx mX7_isWithin 3) (hd : decode M.2.1 pc = .ok (.invokestatic idx, 3)) (hk : k ≤ mc) (hn : n ≤ ms) (hr : Nat.ble (st.map fun v => v.category).sum 8 = true) (kk : G E M (d + 2) mc ms A Q k n (pc + 3) ls (.int (g_bi (lo.toInt ≤ v.toInt ∧ v.toInt ≤ hi.toInt)) :: st) ws) : G E M (d + 2) mc ms A Q k n pc ls (.int hi :: .int lo :: .int v :: st) ws :=
  g_SN3i hd hm hr hk hn ((c_X7_isWithin hN v lo hi).none) (fun r_ w_ hq => by obtain ⟨w1_, ⟨h1_, h2_⟩, rfl⟩ := hq; rw [List.append_nil] at h2_; rw [h1_, h2_]; exact kk)
set_option maxRecDepth 20000 in
theorem c_X7_bit (hN : g_N E) (v : Int32) : g_Ci E mX7_bit (d + 1) [.int v] [] (fun r w => r = (1 <<< (v &&& 31)) ∧ w = []) := by
  refine g_enter hN.1 (by decide) [some (.int v)] rfl (Nat.le_of_ble_eq_true rfl) (fun A => ?_)
  have tc1 := tc_1
  refine g_iconst ki_1 dX7_bit_0 (g_iload0 dX7_bit_1 (g_ishl dX7_bit_2 (g_iret rfl dX7_bit_3 (Nat.le_of_ble_eq_true rfl) (Nat.le_of_ble_eq_true rfl) ?q3)))
  all_goals exact ⟨_, rfl, rfl, rfl⟩
theorem r_X7_bit (hN : g_N E) {idx : Nat} {v : Int32} (hm : MS M.1.cls idx mX7_bit 1) (hd : decode M.2.1 pc = .ok (.invokestatic idx, 3)) (hk : k ≤ mc) (hn : n ≤ ms) (hr : Nat.ble (st.map fun v => v.category).sum 8 = true) (kk : G E M (d + 2) mc ms A Q k n (pc + 3) ls (.int (1 <<< (v &&& 31)) :: st) ws) : G E M (d + 2) mc ms A Q k n pc ls (.int v :: st) ws :=
  g_S1i hd hm hr hk hn ((c_X7_bit hN v).none) (fun r_ w_ hq => by obtain ⟨w1_, ⟨h1_, h2_⟩, rfl⟩ := hq; rw [List.append_nil] at h2_; rw [h1_, h2_]; exact kk)
theorem r_X7_bitN (hN : g_N E) {idx : Nat} {v : Int32} (hm : MSN E M.1.cls idx mX7_bit 1) (hd : decode M.2.1 pc = .ok (.invokestatic idx, 3)) (hk : k ≤ mc) (hn : n ≤ ms) (hr : Nat.ble (st.map fun v => v.category).sum 8 = true) (kk : G E M (d + 2) mc ms A Q k n (pc + 3) ls (.int (1 <<< (v &&& 31)) :: st) ws) : G E M (d + 2) mc ms A Q k n pc ls (.int v :: st) ws :=
  g_SN1i hd hm hr hk hn ((c_X7_bit hN v).none) (fun r_ w_ hq => by obtain ⟨w1_, ⟨h1_, h2_⟩, rfl⟩ := hq; rw [List.append_nil] at h2_; rw [h1_, h2_]; exact kk)
set_option maxRecDepth 20000 in
theorem c_X2_isLetter (hN : g_N E) (v : Int32) : g_Ci E mX2_isLetter (d + 1) [.int v] [] (fun r w => r = (g_bi (97 ≤ v.toInt ∧ v.toInt ≤ 122)) ∧ w = []) := by
  refine g_enter hN.1 (by decide) [some (.int v)] rfl (Nat.le_of_ble_eq_true rfl) (fun A => ?_)
  have tc0 := tc_0; have tc1 := tc_1; have tc97 := tc_97; have tc122 := tc_122
  refine g_iload0 dX2_isLetter_0 (g_bipush kb_97 dX2_isLetter_1 (g_icmp_lt (tgt := 16) dX2_isLetter_3 (by decide) (fun h3 => g_iconst ki_0 dX2_isLetter_16 (g_zret rfl (by first | exact g_bi01 _ | exact Or.inl rfl | exact Or.inr rfl) dX2_isLetter_17 (Nat.le_of_ble_eq_true rfl) (Nat.le_of_ble_eq_true rfl) ?q17)) (fun h3 => g_iload0 dX2_isLetter_6 (g_bipush kb_122 dX2_isLetter_7 (g_icmp_gt (tgt := 16) dX2_isLetter_9 (by decide) (fun h9 => g_iconst ki_0 dX2_isLetter_16 (g_zret rfl (by first | exact g_bi01 _ | exact Or.inl rfl | exact Or.inr rfl) dX2_isLetter_17 (Nat.le_of_ble_eq_true rfl) (Nat.le_of_ble_eq_true rfl) ?q17')) (fun h9 => g_iconst ki_1 dX2_isLetter_12 (g_goto (tgt := 17) dX2_isLetter_13 (by decide) (g_zret rfl (by first | exact g_bi01 _ | exact Or.inl rfl | exact Or.inr rfl) dX2_isLetter_17 (Nat.le_of_ble_eq_true rfl) (Nat.le_of_ble_eq_true rfl) ?q17''))))))))
  all_goals exact ⟨_, rfl, by first | (rw [g_bi1 (by omega)]) | (rw [g_bi0 (by omega)]), rfl⟩
theorem r_X2_isLetter (hN : g_N E) {idx : Nat} {v : Int32} (hm : MS M.1.cls idx mX2_isLetter 1) (hd : decode M.2.1 pc = .ok (.invokestatic idx, 3)) (hk : k ≤ mc) (hn : n ≤ ms) (hr : Nat.ble (st.map fun v => v.category).sum 8 = true) (kk : G E M (d + 2) mc ms A Q k n (pc + 3) ls (.int (g_bi (97 ≤ v.toInt ∧ v.toInt ≤ 122)) :: st) ws) : G E M (d + 2) mc ms A Q k n pc ls (.int v :: st) ws :=
  g_S1i hd hm hr hk hn ((c_X2_isLetter hN v).none) (fun r_ w_ hq => by obtain ⟨w1_, ⟨h1_, h2_⟩, rfl⟩ := hq; rw [List.append_nil] at h2_; rw [h1_, h2_]; exact kk)
set_option maxRecDepth 20000 in
theorem c_X2_isDigit (hN : g_N E) (v : Int32) : g_Ci E mX2_isDigit (d + 1) [.int v] [] (fun r w => r = (g_bi (48 ≤ v.toInt ∧ v.toInt ≤ 57)) ∧ w = []) := by
  refine g_enter hN.1 (by decide) [some (.int v)] rfl (Nat.le_of_ble_eq_true rfl) (fun A => ?_)
  have tc0 := tc_0; have tc1 := tc_1; have tc48 := tc_48; have tc57 := tc_57
  refine g_iload0 dX2_isDigit_0 (g_bipush kb_48 dX2_isDigit_1 (g_icmp_lt (tgt := 16) dX2_isDigit_3 (by decide) (fun h3 => g_iconst ki_0 dX2_isDigit_16 (g_zret rfl (by first | exact g_bi01 _ | exact Or.inl rfl | exact Or.inr rfl) dX2_isDigit_17 (Nat.le_of_ble_eq_true rfl) (Nat.le_of_ble_eq_true rfl) ?q17)) (fun h3 => g_iload0 dX2_isDigit_6 (g_bipush kb_57 dX2_isDigit_7 (g_icmp_gt (tgt := 16) dX2_isDigit_9 (by decide) (fun h9 => g_iconst ki_0 dX2_isDigit_16 (g_zret rfl (by first | exact g_bi01 _ | exact Or.inl rfl | exact Or.inr rfl) dX2_isDigit_17 (Nat.le_of_ble_eq_true rfl) (Nat.le_of_ble_eq_true rfl) ?q17')) (fun h9 => g_iconst ki_1 dX2_isDigit_12 (g_goto (tgt := 17) dX2_isDigit_13 (by decide) (g_zret rfl (by first | exact g_bi01 _ | exact Or.inl rfl | exact Or.inr rfl) dX2_isDigit_17 (Nat.le_of_ble_eq_true rfl) (Nat.le_of_ble_eq_true rfl) ?q17''))))))))
  all_goals exact ⟨_, rfl, by first | (rw [g_bi1 (by omega)]) | (rw [g_bi0 (by omega)]), rfl⟩
theorem r_X2_isDigit (hN : g_N E) {idx : Nat} {v : Int32} (hm : MS M.1.cls idx mX2_isDigit 1) (hd : decode M.2.1 pc = .ok (.invokestatic idx, 3)) (hk : k ≤ mc) (hn : n ≤ ms) (hr : Nat.ble (st.map fun v => v.category).sum 8 = true) (kk : G E M (d + 2) mc ms A Q k n (pc + 3) ls (.int (g_bi (48 ≤ v.toInt ∧ v.toInt ≤ 57)) :: st) ws) : G E M (d + 2) mc ms A Q k n pc ls (.int v :: st) ws :=
  g_S1i hd hm hr hk hn ((c_X2_isDigit hN v).none) (fun r_ w_ hq => by obtain ⟨w1_, ⟨h1_, h2_⟩, rfl⟩ := hq; rw [List.append_nil] at h2_; rw [h1_, h2_]; exact kk)
set_option maxRecDepth 20000 in
theorem c_X0_slot (hN : g_N E) (x : Int32) (y : Int32) (z : Int32) : g_Ci E mX0_slot (d + 1) [.int x, .int y, .int z] [] (fun r w => r = ((x * 6 + y) * 6 + z) ∧ w = []) := by
  refine g_enter hN.1 (by decide) [some (.int x), some (.int y), some (.int z)] rfl (Nat.le_of_ble_eq_true rfl) (fun A => ?_)
  have tc6 := tc_6
  refine g_iload0 dX0_slot_0 (g_bipush kb_6 dX0_slot_1 (g_imul dX0_slot_3 (g_iload1 dX0_slot_4 (g_iadd dX0_slot_5 (g_bipush kb_6 dX0_slot_6 (g_imul dX0_slot_8 (g_iload2 dX0_slot_9 (g_iadd dX0_slot_10 (g_iret rfl dX0_slot_11 (Nat.le_of_ble_eq_true rfl) (Nat.le_of_ble_eq_true rfl) ?q11)))))))))
  all_goals exact ⟨_, rfl, rfl, rfl⟩
theorem r_X0_slot (hN : g_N E) {idx : Nat} {x : Int32} {y : Int32} {z : Int32} (hm : MS M.1.cls idx mX0_slot 3) (hd : decode M.2.1 pc = .ok (.invokestatic idx, 3)) (hk : k ≤ mc) (hn : n ≤ ms) (hr : Nat.ble (st.map fun v => v.category).sum 8 = true) (kk : G E M (d + 2) mc ms A Q k n (pc + 3) ls (.int ((x * 6 + y) * 6 + z) :: st) ws) : G E M (d + 2) mc ms A Q k n pc ls (.int z :: .int y :: .int x :: st) ws :=
  g_S3i hd hm hr hk hn ((c_X0_slot hN x y z).none) (fun r_ w_ hq => by obtain ⟨w1_, ⟨h1_, h2_⟩, rfl⟩ := hq; rw [List.append_nil] at h2_; rw [h1_, h2_]; exact kk)
set_option maxRecDepth 20000 in
theorem c_X8_off (hN : g_N E) (x : Int32) (y : Int32) : g_Ci E mX8_off (d + 1) [.int x, .int y] [] (fun r w => r = (if x.toInt < y.toInt then y - x else x - y) ∧ w = []) := by
  refine g_enter hN.1 (by decide) [some (.int x), some (.int y)] rfl (Nat.le_of_ble_eq_true rfl) (fun A => ?_)
  skip
  refine g_iload0 dX8_off_0 (g_iload1 dX8_off_1 (g_icmp_ge (tgt := 11) dX8_off_2 (by decide) (fun h2 => g_iload0 dX8_off_11 (g_iload1 dX8_off_12 (g_isub dX8_off_13 (g_iret rfl dX8_off_14 (Nat.le_of_ble_eq_true rfl) (Nat.le_of_ble_eq_true rfl) ?q14)))) (fun h2 => g_iload1 dX8_off_5 (g_iload0 dX8_off_6 (g_isub dX8_off_7 (g_goto (tgt := 14) dX8_off_8 (by decide) (g_iret rfl dX8_off_14 (Nat.le_of_ble_eq_true rfl) (Nat.le_of_ble_eq_true rfl) ?q14')))))))
  all_goals exact ⟨_, rfl, by first | (rw [if_pos (by omega)]) | (rw [if_neg (by omega)]), rfl⟩
theorem r_X8_off (hN : g_N E) {idx : Nat} {x : Int32} {y : Int32} (hm : MS M.1.cls idx mX8_off 2) (hd : decode M.2.1 pc = .ok (.invokestatic idx, 3)) (hk : k ≤ mc) (hn : n ≤ ms) (hr : Nat.ble (st.map fun v => v.category).sum 8 = true) (kk : G E M (d + 2) mc ms A Q k n (pc + 3) ls (.int (if x.toInt < y.toInt then y - x else x - y) :: st) ws) : G E M (d + 2) mc ms A Q k n pc ls (.int y :: .int x :: st) ws :=
  g_S2i hd hm hr hk hn ((c_X8_off hN x y).none) (fun r_ w_ hq => by obtain ⟨w1_, ⟨h1_, h2_⟩, rfl⟩ := hq; rw [List.append_nil] at h2_; rw [h1_, h2_]; exact kk)
theorem lg_c (x y : Int64) : (lg_cmp x y).toInt = if x.toInt < y.toInt then -1 else if y.toInt < x.toInt then 1 else 0 := by
  unfold lg_cmp
  simp only [gt_iff_lt, Int64.lt_iff_toInt_lt, ← Int64.toInt_inj]
  by_cases h1 : y.toInt < x.toInt
  · rw [if_pos h1, if_neg (by omega), if_pos h1]; rfl
  · rw [if_neg h1]
    by_cases h2 : x.toInt = y.toInt
    · rw [if_pos h2, if_neg (by omega), if_neg h1]; rfl
    · rw [if_neg h2, if_pos (by omega)]; rfl
set_option maxRecDepth 20000 in
theorem c_X8_within (hN : g_N E) (v : Int32) (lo : Int32) (hi : Int32) : g_Ci E mX8_within (d + 1) [.int v, .int lo, .int hi] [] (fun r w => r = (if v.toInt < lo.toInt then lo else if hi.toInt < v.toInt then hi else v) ∧ w = []) := by
  refine g_enter hN.1 (by decide) [some (.int v), some (.int lo), some (.int hi)] rfl (Nat.le_of_ble_eq_true rfl) (fun A => ?_)
  skip
  refine g_iload0 dX8_within_0 (g_iload1 dX8_within_1 (g_icmp_ge (tgt := 9) dX8_within_2 (by decide) (fun h2 => g_iload0 dX8_within_9 (g_iload2 dX8_within_10 (g_icmp_le (tgt := 18) dX8_within_11 (by decide) (fun h11 => g_iload0 dX8_within_18 (g_iret rfl dX8_within_19 (Nat.le_of_ble_eq_true rfl) (Nat.le_of_ble_eq_true rfl) ?q19)) (fun h11 => g_iload2 dX8_within_14 (g_goto (tgt := 19) dX8_within_15 (by decide) (g_iret rfl dX8_within_19 (Nat.le_of_ble_eq_true rfl) (Nat.le_of_ble_eq_true rfl) ?q19')))))) (fun h2 => g_iload1 dX8_within_5 (g_goto (tgt := 19) dX8_within_6 (by decide) (g_iret rfl dX8_within_19 (Nat.le_of_ble_eq_true rfl) (Nat.le_of_ble_eq_true rfl) ?q19'')))))
  all_goals exact ⟨_, rfl, by first | (rw [if_pos (by omega)]; done) | (rw [if_neg (by omega), if_pos (by omega)]; done) | (rw [if_neg (by omega), if_neg (by omega)]), rfl⟩
theorem r_X8_within (hN : g_N E) {idx : Nat} {v : Int32} {lo : Int32} {hi : Int32} (hm : MS M.1.cls idx mX8_within 3) (hd : decode M.2.1 pc = .ok (.invokestatic idx, 3)) (hk : k ≤ mc) (hn : n ≤ ms) (hr : Nat.ble (st.map fun v => v.category).sum 8 = true) (kk : G E M (d + 2) mc ms A Q k n (pc + 3) ls (.int (if v.toInt < lo.toInt then lo else if hi.toInt < v.toInt then hi else v) :: st) ws) : G E M (d + 2) mc ms A Q k n pc ls (.int hi :: .int lo :: .int v :: st) ws :=
  g_S3i hd hm hr hk hn ((c_X8_within hN v lo hi).none) (fun r_ w_ hq => by obtain ⟨w1_, ⟨h1_, h2_⟩, rfl⟩ := hq; rw [List.append_nil] at h2_; rw [h1_, h2_]; exact kk)
set_option maxRecDepth 20000 in
theorem c_X8_in (hN : g_N E) (v : Int64) (lo : Int64) (hi : Int64) : g_Ci E mX8_in (d + 1) [.long v, .long lo, .long hi] [] (fun r w => r = (g_bi (lo.toInt ≤ v.toInt ∧ v.toInt ≤ hi.toInt)) ∧ w = []) := by
  refine g_enter hN.1 (by decide) [some (.long v), none, some (.long lo), none, some (.long hi), none] rfl (Nat.le_of_ble_eq_true rfl) (fun A => ?_)
  have tc0 := tc_0; have tc1 := tc_1
  have e1 := lg_c v lo
  have e2 := lg_c v hi
  refine g_lload0 dX8_in_0 (g_lload2 dX8_in_1 (g_lcmp dX8_in_2 (g_if_lt (tgt := 17) dX8_in_3 (by decide) (fun h3 => g_iconst ki_0 dX8_in_17 (g_zret rfl (by first | exact g_bi01 _ | exact Or.inl rfl | exact Or.inr rfl) dX8_in_18 (Nat.le_of_ble_eq_true rfl) (Nat.le_of_ble_eq_true rfl) ?q18)) (fun h3 => g_lload0 dX8_in_6 (g_lload4 dX8_in_7 (g_lcmp dX8_in_9 (g_if_gt (tgt := 17) dX8_in_10 (by decide) (fun h10 => g_iconst ki_0 dX8_in_17 (g_zret rfl (by first | exact g_bi01 _ | exact Or.inl rfl | exact Or.inr rfl) dX8_in_18 (Nat.le_of_ble_eq_true rfl) (Nat.le_of_ble_eq_true rfl) ?q18')) (fun h10 => g_iconst ki_1 dX8_in_13 (g_goto (tgt := 18) dX8_in_14 (by decide) (g_zret rfl (by first | exact g_bi01 _ | exact Or.inl rfl | exact Or.inr rfl) dX8_in_18 (Nat.le_of_ble_eq_true rfl) (Nat.le_of_ble_eq_true rfl) ?q18''))))))))))
  all_goals exact ⟨_, rfl, by first | (rw [g_bi1 (by omega)]) | (rw [g_bi0 (by omega)]), rfl⟩
theorem r_X8_in (hN : g_N E) {idx : Nat} {v : Int64} {lo : Int64} {hi : Int64} (hm : MS M.1.cls idx mX8_in 3) (hd : decode M.2.1 pc = .ok (.invokestatic idx, 3)) (hk : k ≤ mc) (hn : n ≤ ms) (hr : Nat.ble (st.map fun v => v.category).sum 8 = true) (kk : G E M (d + 2) mc ms A Q k n (pc + 3) ls (.int (g_bi (lo.toInt ≤ v.toInt ∧ v.toInt ≤ hi.toInt)) :: st) ws) : G E M (d + 2) mc ms A Q k n pc ls (.long hi :: .long lo :: .long v :: st) ws :=
  g_S3i hd hm hr hk hn ((c_X8_in hN v lo hi).none) (fun r_ w_ hq => by obtain ⟨w1_, ⟨h1_, h2_⟩, rfl⟩ := hq; rw [List.append_nil] at h2_; rw [h1_, h2_]; exact kk)
set_option maxRecDepth 20000 in
theorem c_X8_over (hN : g_N E) (v : Int32) : g_Ci E mX8_over (d + 1) [.int v] [] (fun r w => r = (if v.toInt = 0 then -1 else if v.toInt = 1 ∨ v.toInt = 2 then 0 else if v.toInt = 4 then 2 else 1) ∧ w = []) := by
  refine g_enter hN.1 (by decide) [some (.int v)] rfl (Nat.le_of_ble_eq_true rfl) (fun A => ?_)
  have tcm1 := tc_m1; have tc0 := tc_0; have tc1 := tc_1; have tc2 := tc_2; have tc4 := tc_4
  refine g_iload0 dX8_over_0 (g_if_ne (tgt := 8) dX8_over_1 (by decide) (fun h1 => g_iload0 dX8_over_8 (g_iconst ki_1 dX8_over_9 (g_icmp_eq (tgt := 18) dX8_over_10 (by decide) (fun h10 => g_iconst ki_0 dX8_over_18 (g_goto (tgt := 32) dX8_over_19 (by decide) (g_iret rfl dX8_over_32 (Nat.le_of_ble_eq_true rfl) (Nat.le_of_ble_eq_true rfl) ?q32))) (fun h10 => g_iload0 dX8_over_13 (g_iconst ki_2 dX8_over_14 (g_icmp_ne (tgt := 22) dX8_over_15 (by decide) (fun h15 => g_iload0 dX8_over_22 (g_iconst ki_4 dX8_over_23 (g_icmp_ne (tgt := 31) dX8_over_24 (by decide) (fun h24 => g_iconst ki_1 dX8_over_31 (g_iret rfl dX8_over_32 (Nat.le_of_ble_eq_true rfl) (Nat.le_of_ble_eq_true rfl) ?q32')) (fun h24 => g_iconst ki_2 dX8_over_27 (g_goto (tgt := 32) dX8_over_28 (by decide) (g_iret rfl dX8_over_32 (Nat.le_of_ble_eq_true rfl) (Nat.le_of_ble_eq_true rfl) ?q32'')))))) (fun h15 => g_iconst ki_0 dX8_over_18 (g_goto (tgt := 32) dX8_over_19 (by decide) (g_iret rfl dX8_over_32 (Nat.le_of_ble_eq_true rfl) (Nat.le_of_ble_eq_true rfl) ?q32'''))))))))) (fun h1 => g_iconst ki_m1 dX8_over_4 (g_goto (tgt := 32) dX8_over_5 (by decide) (g_iret rfl dX8_over_32 (Nat.le_of_ble_eq_true rfl) (Nat.le_of_ble_eq_true rfl) ?q32''''))))
  all_goals exact ⟨_, rfl, by repeat (first | rw [if_pos (by omega)] | rw [if_neg (by omega)]), rfl⟩
theorem r_X8_over (hN : g_N E) {idx : Nat} {v : Int32} (hm : MS M.1.cls idx mX8_over 1) (hd : decode M.2.1 pc = .ok (.invokestatic idx, 3)) (hk : k ≤ mc) (hn : n ≤ ms) (hr : Nat.ble (st.map fun v => v.category).sum 8 = true) (kk : G E M (d + 2) mc ms A Q k n (pc + 3) ls (.int (if v.toInt = 0 then -1 else if v.toInt = 1 ∨ v.toInt = 2 then 0 else if v.toInt = 4 then 2 else 1) :: st) ws) : G E M (d + 2) mc ms A Q k n pc ls (.int v :: st) ws :=
  g_S1i hd hm hr hk hn ((c_X8_over hN v).none) (fun r_ w_ hq => by obtain ⟨w1_, ⟨h1_, h2_⟩, rfl⟩ := hq; rw [List.append_nil] at h2_; rw [h1_, h2_]; exact kk)
end S10
