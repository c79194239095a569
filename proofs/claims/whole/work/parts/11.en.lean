section S11
variable {E : GE} {M : GM} {d : Nat} {av : List Value} {ws : va_W}
theorem g_enterI {Q0 : Int32 → va_W → Prop} (hst : g_St E) (hy : plainName M.1.cls = true) (ls : List (Option Value)) (hl : g_la M.2.2.1 av = ls) (hn : (lg_sl av).length ≤ M.2.2.1) (body : ∀ (A : Nat → Prop) (Q : Option Value → va_W → Prop), (∀ r w, Q0 r w → Q (some (.int r)) w) → G E M d 0 0 A Q 0 0 0 ls [] ws) : g_Ci E M d av ws Q0 :=
  g_enter hst hy ls hl hn (fun A => body A _ (fun r w h => ⟨r, rfl, h⟩))
theorem g_enterL {Q0 : Int64 → va_W → Prop} (hst : g_St E) (hy : plainName M.1.cls = true) (ls : List (Option Value)) (hl : g_la M.2.2.1 av = ls) (hn : (lg_sl av).length ≤ M.2.2.1) (body : ∀ (A : Nat → Prop) (Q : Option Value → va_W → Prop), (∀ r w, Q0 r w → Q (some (.long r)) w) → G E M d 0 0 A Q 0 0 0 ls [] ws) : g_Cl E M d av ws Q0 :=
  g_enter hst hy ls hl hn (fun A => body A _ (fun r w h => ⟨r, rfl, h⟩))
theorem g_enterA {Q0 : Nat → va_W → Prop} (hst : g_St E) (hy : plainName M.1.cls = true) (ls : List (Option Value)) (hl : g_la M.2.2.1 av = ls) (hn : (lg_sl av).length ≤ M.2.2.1) (body : ∀ (A : Nat → Prop) (Q : Option Value → va_W → Prop), (∀ r w, Q0 r w → Q (some (.ref r)) w) → G E M d 0 0 A Q 0 0 0 ls [] ws) : g_Ca E M d av ws Q0 :=
  g_enter hst hy ls hl hn (fun A => body A _ (fun r w h => ⟨r, rfl, h⟩))
theorem g_enterV {Q0 : va_W → Prop} (hst : g_St E) (hy : plainName M.1.cls = true) (ls : List (Option Value)) (hl : g_la M.2.2.1 av = ls) (hn : (lg_sl av).length ≤ M.2.2.1) (body : ∀ (A : Nat → Prop) (Q : Option Value → va_W → Prop), (∀ w, Q0 w → Q none w) → G E M d 0 0 A Q 0 0 0 ls [] ws) : g_Cv E M d av ws Q0 :=
  g_enter hst hy ls hl hn (fun A => body A _ (fun w h => ⟨rfl, h⟩))
theorem g_Ci.post {Q0 Q1 : Int32 → va_W → Prop} (h : g_Ci E M d av ws Q0) (hq : ∀ r w, Q0 r w → Q1 r w) : g_Ci E M d av ws Q1 := g_post h (fun v w hh => by obtain ⟨r, hv, h1⟩ := hh; exact ⟨r, hv, hq r w h1⟩)
theorem g_Cv.post {Q0 Q1 : va_W → Prop} (h : g_Cv E M d av ws Q0) (hq : ∀ w, Q0 w → Q1 w) : g_Cv E M d av ws Q1 := g_post h (fun v w hh => ⟨hh.1, hq w hh.2⟩)
theorem g_Cl.post {Q0 Q1 : Int64 → va_W → Prop} (h : g_Cl E M d av ws Q0) (hq : ∀ r w, Q0 r w → Q1 r w) : g_Cl E M d av ws Q1 := g_post h (fun v w hh => by obtain ⟨r, hv, h1⟩ := hh; exact ⟨r, hv, hq r w h1⟩)
end S11
section S11b
variable {E : GE} {M : GM} {d mc ms : Nat} {A : Nat → Prop} {Q : Option Value → va_W → Prop} {k n pc : Nat} {ls : List (Option Value)} {st : List Value} {ws : va_W}
set_option maxRecDepth 20000 in
theorem c_X7_isSheet (hN : g_N E) (v : Int32) : g_Ci E mX7_isSheet (d + 2) [.int v] [] (fun r w => r = (g_bi (0 ≤ v.toInt ∧ v.toInt ≤ 3)) ∧ w = []) := by
  refine g_enter hN.1 (by decide) [some (.int v)] rfl (Nat.le_of_ble_eq_true rfl) (fun A => ?_)
  have tc0 := tc_0; have tc3 := tc_3
  refine g_iload0 dX7_isSheet_0 (g_iconst ki_0 dX7_isSheet_1 (g_iconst ki_3 dX7_isSheet_2 (r_X7_isWithin hN mv_X7_100 dX7_isSheet_3 (Nat.le_of_ble_eq_true rfl) (Nat.le_of_ble_eq_true rfl) rfl (g_zret rfl (by first | exact g_bi01 _ | exact Or.inl rfl | exact Or.inr rfl) dX7_isSheet_6 (Nat.le_of_ble_eq_true rfl) (Nat.le_of_ble_eq_true rfl) ?q6))))
  exact ⟨_, rfl, by simp only [tc0, tc3], rfl⟩
theorem r_X7_isSheet (hN : g_N E) {idx : Nat} {v : Int32} (hm : MS M.1.cls idx mX7_isSheet 1) (hd : decode M.2.1 pc = .ok (.invokestatic idx, 3)) (hk : k ≤ mc) (hn : n ≤ ms) (hr : Nat.ble (st.map fun v => v.category).sum 8 = true) (kk : G E M (d + 3) mc ms A Q k n (pc + 3) ls (.int (g_bi (0 ≤ v.toInt ∧ v.toInt ≤ 3)) :: st) ws) : G E M (d + 3) mc ms A Q k n pc ls (.int v :: st) ws :=
  g_S1i hd hm hr hk hn ((c_X7_isSheet hN v).none) (fun r_ w_ hq => by obtain ⟨w1_, ⟨h1_, h2_⟩, rfl⟩ := hq; rw [List.append_nil] at h2_; rw [h1_, h2_]; exact kk)
end S11b
