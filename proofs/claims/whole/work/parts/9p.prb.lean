/-! each call on both sides: orders, walks, image, texts, sheets -/
theorem t_m100000 : (-100000 : Int32).toInt = -100000 := by decide
section S9p
variable {E : GE} {adK adV ta : Nat → Nat} {a b : Nat → Nat} {ws : va_W}
theorem prB_le (D : Dg) (C : List Int32) (e : Nat → Nat) (p x y : Nat) : prB D C e p x y ≤ 99 := by
  have := rlI_0 C e (nmF D.1.length D.2.1 x y 1 (nI (if x < y then p else p + 1))) (part := 0) (by omega)
  unfold prB
  omega
set_option maxHeartbeats 1000000 in
theorem p_atOdds (hE : g_E E adK adV ta) (h : LW E a b ws) (x : Int32) : PRi E a b mX7_atOdds [.ref (a 0), .int x] mX8_atOdds [.ref (b 0), .int x] ws := by
  have hN := g_E_N hE
  obtain ⟨D, r, L, D2, r2, L2, im, X, T, tC, tE, sh, v, t, f, hW, hM⟩ := h
  obtain ⟨hD, hD2, hL, hL2⟩ := hW.dg
  obtain ⟨hr6, hok, B, hTB, hTX⟩ := hM.rule
  refine PR.mk (P := fun z => (¬ (0 ≤ x.toInt ∧ x.toInt ≤ 1) → z = -2) ∧ (x.toInt = 0 → z.toInt = oddsF D (tC r) (tE r) (D.1.length - 1)) ∧ (x.toInt = 1 → z = nI (srF D.1.length (prB D (tC r) (tE r)) (fun _ => 0)).1)) hW (cl_Aor hW hr6 hok (fun F w hw => (c_atOdds hE hw x).post (fun z w' q => ⟨⟨q.1, q.2.1, q.2.2.1⟩, q.2.2.2⟩))) ((c_X8_atOdds hN hD hM.1 hM.2.2.2.1 hr6 hTB hTX x).post (fun z w hq => ?_)) ?_
  · obtain ⟨h1, h2, h3, v', t', f', rfl, a1, a2, n1⟩ := hq
    exact ⟨⟨h1, h2, h3⟩, v', t', f', rfl, hM.go1 a1 a2 rfl rfl n1⟩
  · intro z z' h1 h2
    by_cases c : 0 ≤ x.toInt ∧ x.toInt ≤ 1
    · by_cases c0 : x.toInt = 0
      · exact u_int _ _ (h1.2.1 c0) (h2.2.1 c0)
      · exact u_eq _ _ (h1.2.2 (by omega)) (h2.2.2 (by omega))
    · exact u_eq _ _ (h1.1 c) (h2.1 c)
theorem u_best {n : Nat} {l : List Nat} (hl : l.length = n) {x : Int32} : ∀ z z' : Int32, ((¬ (0 ≤ x.toInt ∧ x.toInt < n) → z = -2) ∧ (0 ≤ x.toInt ∧ x.toInt < n → ∀ y, l[x.toInt.toNat]? = some y → z = nI y)) → ((¬ (0 ≤ x.toInt ∧ x.toInt < n) → z' = -2) ∧ (0 ≤ x.toInt ∧ x.toInt < n → ∀ y, l[x.toInt.toNat]? = some y → z' = nI y)) → z' = z := by
  intro z z' h1 h2
  by_cases c : 0 ≤ x.toInt ∧ x.toInt < n
  · have hg : l[x.toInt.toNat]? = some (l[x.toInt.toNat]'(by omega)) := List.getElem?_eq_getElem _
    exact u_eq _ _ (h1.2 c _ hg) (h2.2 c _ hg)
  · exact u_eq _ _ (h1.1 c) (h2.1 c)
set_option maxHeartbeats 1000000 in
theorem p_best (hE : g_E E adK adV ta) (h : LW E a b ws) (x : Int32) : PRi E a b mX7_best [.ref (a 0), .int x] mX8_best [.ref (b 0), .int x] ws := by
  have hN := g_E_N hE
  obtain ⟨D, r, L, D2, r2, L2, im, X, T, tC, tE, sh, v, t, f, hW, hM⟩ := h
  obtain ⟨hD, hD2, hL, hL2⟩ := hW.dg
  obtain ⟨hr6, hok, B, hTB, hTX⟩ := hM.rule
  have hl := (sr_found hD.1 (prB D (tC r) (tE r)) (fun _ => 0) (fun p x y _ _ _ => prB_le _ _ _ _ _ _) (fun _ _ => Nat.zero_le _)).2
  refine PR.mk (P := fun z => (¬ (0 ≤ x.toInt ∧ x.toInt < D.1.length) → z = -2) ∧ (0 ≤ x.toInt ∧ x.toInt < D.1.length → ∀ y, (srF D.1.length (prB D (tC r) (tE r)) (fun _ => 0)).2[x.toInt.toNat]? = some y → z = nI y)) hW (cl_Aor hW hr6 hok (fun F w hw => (c_best hE hw x).post (fun z w' q => ⟨⟨q.1, q.2.1⟩, q.2.2⟩))) ((c_X8_best hN hD hM.1 hM.2.2.2.1 hr6 hTB hTX x).post (fun z w hq => ?_)) (u_best hl)
  obtain ⟨h1, h2, v', t', f', rfl, a1, a2, n1⟩ := hq
  exact ⟨⟨h1, h2⟩, v', t', f', rfl, hM.go1 a1 a2 rfl rfl n1⟩
set_option maxHeartbeats 1000000 in
theorem p_fetch (hE : g_E E adK adV ta) (h : LW E a b ws) : PRi E a b mX7_fetch [.ref (a 0)] mX8_fetch [.ref (b 0)] ws := by
  have hN := g_E_N hE
  obtain ⟨D, r, L, D2, r2, L2, im, X, T, tC, tE, sh, v, t, f, hW, hM⟩ := h
  obtain ⟨hD, hD2, hL, hL2⟩ := hW.dg
  obtain ⟨hr6, hok, B, hTB, hTX⟩ := hM.rule
  refine PR.mk hW (cl_Afo hW (fun F w hw => (c_fetch hN hw).post (fun z w' q => ⟨q.1, _, q.2⟩))) ((c_X8_fetch hN hD hM.1 hM.2.2.2.1 hr6 hTB hTX).post (fun z w hq => ?_)) u_eq
  obtain ⟨h1, v', t', f', rfl, a1, a2⟩ := hq
  exact ⟨h1, v', t', f', rfl, hM.go0 a1 a2 rfl rfl⟩
set_option maxHeartbeats 1000000 in
theorem p_fetched (hE : g_E E adK adV ta) (h : LW E a b ws) (x : Int32) : PRi E a b mX7_fetched [.ref (a 0), .int x] mX8_fetched [.ref (b 0), .int x] ws := by
  have hN := g_E_N hE
  obtain ⟨D, r, L, D2, r2, L2, im, X, T, tC, tE, sh, v, t, f, hW, hM⟩ := h
  obtain ⟨hD, hD2, hL, hL2⟩ := hW.dg
  obtain ⟨hr6, hok, B, hTB, hTX⟩ := hM.rule
  have hl := (sr_found hD.1 (fun _ => hdN D) (hoN D) (fun p x y _ hx hy => hd_le hD hx hy) (fun x hx => ho_le hD hx)).2
  refine PR.mk (P := fun z => (¬ (0 ≤ x.toInt ∧ x.toInt < D.1.length) → z = -2) ∧ (0 ≤ x.toInt ∧ x.toInt < D.1.length → ∀ y, (srF D.1.length (fun _ => hdN D) (hoN D)).2[x.toInt.toNat]? = some y → z = nI y)) hW (cl_Afo hW (fun F w hw => (c_fetched hN hw x).post (fun z w' q => ⟨⟨q.1, q.2.1⟩, q.2.2⟩))) ((c_X8_fetched hN hD hM.1 hM.2.2.2.1 hr6 hTB hTX x).post (fun z w hq => ?_)) (u_best hl)
  obtain ⟨h1, h2, v', t', f', rfl, a1, a2⟩ := hq
  exact ⟨⟨h1, h2⟩, v', t', f', rfl, hM.go0 a1 a2 rfl rfl⟩
set_option maxHeartbeats 1000000 in
theorem p_walk (hE : g_E E adK adV ta) (h : LW E a b ws) : PRi E a b mX7_walk [.ref (a 0)] mX8_walk [.ref (b 0)] ws := by
  have hN := g_E_N hE
  obtain ⟨D, r, L, D2, r2, L2, im, X, T, tC, tE, sh, v, t, f, hW, hM⟩ := h
  obtain ⟨hD, hD2, hL, hL2⟩ := hW.dg
  obtain ⟨hr6, hok, B, hTB, hTX⟩ := hM.rule
  refine PR.mk hW (cl_Aor hW hr6 hok (fun F w hw => (c_walk hE hw).post (fun z w' q => ⟨q.1, _, q.2⟩))) ((c_X8_walk hN hD hM.1 hM.2.2.2.1 hr6 hTB hTX).post (fun z w hq => ?_)) u_eq
  obtain ⟨h1, v', t', f', rfl, a1, a2⟩ := hq
  exact ⟨h1, v', t', f', rfl, hM.go0 a1 a2 rfl rfl⟩
set_option maxHeartbeats 1000000 in
theorem p_take (hE : g_E E adK adV ta) (h : LW E a b ws) (x : Int32) : PRi E a b mX7_take [.ref (a 0), .int x] mX8_take [.ref (b 0), .int x] ws := by
  have hN := g_E_N hE
  obtain ⟨D, r, L, D2, r2, L2, im, X, T, tC, tE, sh, v, t, f, hW, hM⟩ := h
  obtain ⟨hD, hD2, hL, hL2⟩ := hW.dg
  obtain ⟨hr6, hok, B, hTB, hTX⟩ := hM.rule
  refine PR.mk (P := fun z => sTake D (tC r) (tE r) x z) hW (cl_Awt hW hr6 hok (fun wo w hw => c_take hE hw x)) ((c_X8_take hN hD hM.1 hM.2.2.2.1 hr6 hTB hTX x).post (fun z w hq => ?_)) ?_
  · obtain ⟨h1, v', t', f', rfl, a1, a2⟩ := hq
    exact ⟨h1, v', t', f', rfl, hM.go0 a1 a2 rfl rfl⟩
  · intro z z' h1 h2
    by_cases c : 0 ≤ x.toInt ∧ x.toInt ≤ 1
    · by_cases c0 : x.toInt = 0
      · exact u_eq _ _ (h1.2.1 c0) (h2.2.1 c0)
      · exact u_int _ _ (h1.2.2 (by omega)) (h2.2.2 (by omega))
    · exact u_int _ _ (h1.1 c) (h2.1 c)
set_option maxHeartbeats 1000000 in
theorem p_image (hE : g_E E adK adV ta) (h : LW E a b ws) : PRi E a b mX7_image [.ref (a 0)] mX8_image [.ref (b 0)] ws := by
  have hN := g_E_N hE
  obtain ⟨D, r, L, D2, r2, L2, im, X, T, tC, tE, sh, v, t, f, hW, hM⟩ := h
  obtain ⟨hD, hD2, hL, hL2⟩ := hW.dg
  obtain ⟨m1, m2, m3, m4, m5, m6, m7, m8⟩ := id hM
  refine PR.mk hW (cl_Akp hW (fun w hw => c_image hN hw)) ((c_X8_image hN hD m1 m2 m4).post (fun z w hq => ?_)) u_eq
  obtain ⟨h1, v', f', rfl, a1, a2, n1⟩ := hq
  exact ⟨h1, v', t, f', rfl, m1.ag a1 a2 rfl rfl, m2.ag a1 a2 rfl rfl rfl, m3, by rw [a1.at 4 rfl]; exact m4, m5, m6.ag a1 a2 rfl rfl, Or.inr ⟨rfl, n1, ⟨[], (List.append_nil _).symm⟩, m3, m5⟩, fun i hi => (m8 i hi).ag a2 rfl⟩
set_option maxHeartbeats 1000000 in
theorem p_back (hE : g_E E adK adV ta) (h : LW E a b ws) : PRi E a b mX7_back [.ref (a 0)] mX8_back [.ref (b 0)] ws := by
  have hN := g_E_N hE
  obtain ⟨D, r, L, D2, r2, L2, im, X, T, tC, tE, sh, v, t, f, hW, hM⟩ := h
  obtain ⟨hD, hD2, hL, hL2⟩ := hW.dg
  obtain ⟨m1, m2, m3, m4, m5, m6, m7, m8⟩ := id hM
  rcases m7 with ⟨e, m7⟩ | ⟨e, m7, ⟨l, hl⟩, mO, mr⟩
  · refine PR.mk (P := fun z => z = -3) hW (cl_Akp hW (fun w hw => (c_back hN hw).post (fun z w' q => by rw [if_pos (by rw [e]; rfl)] at q; exact ⟨q.1, by rw [q.2]; exact hw⟩))) ((c_X8_back0 hN m7).post (fun z w hq => ⟨hq.1, v, t, f, hq.2, hM⟩)) u_eq
  · have hpre : Lst D2.1 (f 7) := by
      intro i x hx
      have hlt := (List.getElem?_eq_some_iff.mp hx).1
      exact m1.2.1 i x (by rw [hl, List.getElem?_append_left hlt]; exact hx)
    refine PR.mk (P := fun z => z = nI D2.1.length) hW (cl_Akp hW (fun w hw => (c_back hN hw).post (fun z w' q => by rw [if_neg (by rw [e]; decide)] at q; exact q))) ((c_X8_back hN hD2 m7 hpre).post (fun z w hq => ?_)) u_eq
    obtain ⟨h1, v', f', rfl, a1, a2, n1, n2, n3⟩ := hq
    exact ⟨h1, v', t, f', rfl, n1, n2, mO, n3, mr, m6.ag a1 a2 rfl rfl, Or.inr ⟨e, m7.ag a1 a2 rfl rfl rfl rfl rfl, ⟨[], (List.append_nil _).symm⟩, mO, mr⟩, fun i hi => (m8 i hi).ag a2 rfl⟩
set_option maxHeartbeats 1000000 in
theorem p_count (hE : g_E E adK adV ta) (h : LW E a b ws) (x : Int32) : PRi E a b mX7_count [.ref (a 0), .int x] mX8_count [.ref (b 0), .int x] ws := by
  have hN := g_E_N hE
  obtain ⟨D, r, L, D2, r2, L2, im, X, T, tC, tE, sh, v, t, f, hW, hM⟩ := h
  obtain ⟨hD, hD2, hL, hL2⟩ := hW.dg
  obtain ⟨O, hO⟩ := hM.2.2.1
  refine PR.mk (P := fun z => z = sCount D r L T (nI X) x) hW (cl_cnt hW (fun Lt w hw => by
    obtain ⟨w1, w2, hA, hR, rfl⟩ := hw
    exact (c_count hN hA hR x).post (fun z w' q => by obtain ⟨q1, Lt', w1', q2, rfl⟩ := q; exact ⟨q1, Lt', w1', w2, q2, hR, rfl⟩))) ((c_X8_count hN hD hM.1 hM.2.1 hO hM.2.2.2.1 hM.2.2.2.2.2.1.2.2.1 x).post (fun z w hq => ?_)) u_eq
  obtain ⟨h1, v', f', rfl, a1, a2, n1⟩ := hq
  exact ⟨by rw [hM.2.2.2.2.2.1.2.1] at h1; exact h1, v', t, f', rfl, hM.go1 a1 a2 rfl rfl n1⟩
set_option maxHeartbeats 1000000 in
theorem p_swaps (hE : g_E E adK adV ta) (h : LW E a b ws) (x : Int32) : PRi E a b mX7_swaps [.ref (a 0), .int x] mX8_swaps [.ref (b 0), .int x] ws := by
  have hN := g_E_N hE
  obtain ⟨D, r, L, D2, r2, L2, im, X, T, tC, tE, sh, v, t, f, hW, hM⟩ := h
  obtain ⟨hD, hD2, hL, hL2⟩ := hW.dg
  obtain ⟨i, hi, hx⟩ := shN_at x
  exact PR.mk hW (cl_Axs hW hi (fun w hw => (c_swaps hN hw x hx).post (fun z w' q => ⟨q.1, by rw [q.2]; exact hw⟩))) ((c_X8_swaps hN hD hM.1 (hM.2.2.2.2.2.2.2 i hi) x hx).post (fun z w hq => ⟨hq.1, v, t, f, hq.2, hM⟩)) u_eq
set_option maxHeartbeats 1000000 in
theorem p_seen (hE : g_E E adK adV ta) (h : LW E a b ws) (x y s : Int32) : PRi E a b mX7_seen [.ref (a 0), .int x, .int y, .int s] mX8_seen [.ref (b 0), .int x, .int y, .int s] ws := by
  have hN := g_E_N hE
  obtain ⟨D, r, L, D2, r2, L2, im, X, T, tC, tE, sh, v, t, f, hW, hM⟩ := h
  obtain ⟨hD, hD2, hL, hL2⟩ := hW.dg
  obtain ⟨i, hi, hx⟩ := shN_at x
  refine PR.mk (P := fun z => z = sSeen D (sh i) x y s) hW (cl_Ase hW hi (fun w hw => (c_seen hN hw x y s hx).post (fun z w' q => ⟨by rw [q.1, see_eq], q.2⟩))) ((c_X8_seen hN hD hM.1 (hM.2.2.2.2.2.2.2 i hi) x y s hx).post (fun z w hq => ?_)) u_eq
  obtain ⟨h1, v', f', rfl, a1, a2, n1⟩ := hq
  exact ⟨h1, v', t, f', rfl, hM.go1 a1 a2 rfl rfl n1⟩
set_option maxHeartbeats 1000000 in
theorem p_crossings (hE : g_E E adK adV ta) (h : LW E a b ws) (x y s q : Int32) : PRi E a b mX7_crossings [.ref (a 0), .int x, .int y, .int s, .int q] mX8_crossings [.ref (b 0), .int x, .int y, .int s, .int q] ws := by
  have hN := g_E_N hE
  obtain ⟨D, r, L, D2, r2, L2, im, X, T, tC, tE, sh, v, t, f, hW, hM⟩ := h
  obtain ⟨hD, hD2, hL, hL2⟩ := hW.dg
  obtain ⟨i, hi, hx⟩ := shN_at x
  refine PR.mk hW (cl_Axs hW hi (fun w hw => c_crossings hN hw x y s q hx)) ((c_X8_crossings hN hD hM.1 hM.2.1 (hM.2.2.2.2.2.2.2 i hi) x y s q hx).post (fun z w hq => ?_)) u_eq
  obtain ⟨h1, v', f', rfl, a1, a2, n1, n2⟩ := hq
  have hp := sXs_pli (s := sh i) hD hL hM.2.2.1 x y s q
  exact ⟨h1, v', t, f', rfl, hM.go a1 a2 rfl rfl n1 n2 hp.1 ⟨[], by rw [hp.2, List.append_nil]⟩ (by rw [a1.at 4 rfl]; exact hM.2.2.2.1) hM.2.2.2.2.1⟩
theorem MXs.sh {D D2 : Dg} {r r2 : Nat} {L L2 : List Cr} {im : Int32} {X : Nat} {T : List Nat} {tC : Nat → List Int32} {tE : Nat → Nat → Nat} {sh : Nat → Int32 × List Int32} {v : Nat → Int32} {f f' : Nat → Nat → Int32} {S2 : List Nat} {i : Nat} {s : Int32 × List Int32} (h : MXs v f D r L D2 r2 L2 im X T tC tE sh) (h2 : agF S2 f f') (q2 : [1, 2, 5, 7, 8, 9, 10, 11, 13, 14, 47, 48].all (fun j => !S2.contains j) = true) (hi : i < 4) (h3 : MSh f' i s) (h4 : ∀ i' s', i' ≠ i → MSh f i' s' → MSh f' i' s') : MXs v f' D r L D2 r2 L2 im X T tC tE (updS sh i s) := by
  obtain ⟨m1, m2, m3, m4, m5, m6, m7, m8⟩ := h
  have al : ∀ {S l l2 : List Nat}, l.all (fun j => !S.contains j) = true → (∀ j ∈ l2, j ∈ l) → l2.all (fun j => !S.contains j) = true := fun h hs => List.all_eq_true.mpr (fun j hj => List.all_eq_true.mp h j (hs j hj))
  refine ⟨m1.ag (S1 := []) agV.rf h2 rfl (al q2 (by simp)), m2.ag (S1 := []) agV.rf h2 rfl (aL_ag q2 (by simp)) (aL_ag q2 (by simp)), m3, m4, m5, m6.ag (S1 := []) agV.rf h2 rfl (al q2 (by simp)), m7.ag (S1 := []) agV.rf h2 rfl (al q2 (by simp)) ⟨[], (List.append_nil _).symm⟩, fun j hj => ?_⟩
  by_cases q : j = i
  · subst q; rw [updS_s]; exact h3
  · rw [updS_o q]; exact h4 j _ q (m8 j hj)
set_option maxHeartbeats 1000000 in
theorem p_sheet (hE : g_E E adK adV ta) (h : LW E a b ws) (x y s : Int32) : PRi E a b mX7_sheet [.ref (a 0), .int x, .int y, .int s] mX8_sheet [.ref (b 0), .int x, .int y, .int s] ws := by
  have hN := g_E_N hE
  obtain ⟨D, r, L, D2, r2, L2, im, X, T, tC, tE, sh, v, t, f, hW, hM⟩ := h
  obtain ⟨i, hi, hx⟩ := shN_at x
  refine PR.mk hW (cl_Ash hW hi (fun w hw => c_sheet hN hw x y s hx)) ((c_X8_sheet hN (hM.2.2.2.2.2.2.2 i hi) x y s hx).post (fun z w hq => ?_)) u_eq
  obtain ⟨h1, f', rfl, a2, n1, n2⟩ := hq
  exact ⟨h1, v, t, f', rfl, hM.sh a2 rfl hi n1 n2⟩
set_option maxHeartbeats 1000000 in
theorem p_cell (hE : g_E E adK adV ta) (h : LW E a b ws) (x y s : Int32) : PRi E a b mX7_cell [.ref (a 0), .int x, .int y, .int s] mX8_cell [.ref (b 0), .int x, .int y, .int s] ws := by
  have hN := g_E_N hE
  obtain ⟨D, r, L, D2, r2, L2, im, X, T, tC, tE, sh, v, t, f, hW, hM⟩ := h
  obtain ⟨i, hi, hx⟩ := shN_at x
  refine PR.mk hW (cl_Ash hW hi (fun w hw => c_cell hN hw x y s hx)) ((c_X8_cell hN (hM.2.2.2.2.2.2.2 i hi) x y s hx).post (fun z w hq => ?_)) u_eq
  obtain ⟨h1, f', rfl, a2, n1, n2⟩ := hq
  exact ⟨h1, v, t, f', rfl, hM.sh a2 rfl hi n1 n2⟩
set_option maxHeartbeats 1000000 in
theorem p_copy (hE : g_E E adK adV ta) (h : LW E a b ws) (x y s q u : Int32) : PRi E a b mX7_copy [.ref (a 0), .int x, .int y, .int s, .int q, .int u] mX8_copy [.ref (b 0), .int x, .int y, .int s, .int q, .int u] ws := by
  have hN := g_E_N hE
  obtain ⟨D, r, L, D2, r2, L2, im, X, T, tC, tE, sh, v, t, f, hW, hM⟩ := h
  obtain ⟨i, hi, hx⟩ := shN_at x
  obtain ⟨j, hj, hy⟩ := shN_at s
  by_cases c : i = j
  · subst c
    refine PR.mk hW (cl_Ash hW hi (fun w hw => c_copy1 hN hw x y s q u hx hy)) ((c_X8_copy hN (hM.2.2.2.2.2.2.2 i hi) (hM.2.2.2.2.2.2.2 i hi) (fun _ => rfl) x y s q u hx hy).post (fun z w hq => ?_)) u_eq
    obtain ⟨h1, f', rfl, a2, n1, n2⟩ := hq
    exact ⟨h1, v, t, f', rfl, hM.sh a2 rfl hi n1 n2⟩
  · refine PR.mk hW (cl_Acp hW hi hj c (fun w hw => c_copy2 hN hw x y s q u hx hy)) ((c_X8_copy hN (hM.2.2.2.2.2.2.2 i hi) (hM.2.2.2.2.2.2.2 j hj) (fun e => absurd e c) x y s q u hx hy).post (fun z w hq => ?_)) u_eq
    obtain ⟨h1, f', rfl, a2, n1, n2⟩ := hq
    exact ⟨h1, v, t, f', rfl, hM.sh a2 rfl hj n1 n2⟩
set_option maxHeartbeats 1000000 in
theorem p_text (hE : g_E E adK adV ta) (h : LW E a b ws) : PRi E a b mX7_text [.ref (a 0)] mX8_text [.ref (b 0)] ws := by
  have hN := g_E_N hE
  obtain ⟨D, r, L, D2, r2, L2, im, X, T, tC, tE, sh, v, t, f, hW, hM⟩ := h
  obtain ⟨hD, hD2, hL, hL2⟩ := hW.dg
  obtain ⟨m1, m2, m3, m4, m5, ⟨t1, t2, t3, t4, t5, t6, t7⟩, m7, m8⟩ := id hM
  have hC8 := c_X8_text (b := b) (v := v) (t := t) (f := f) (d := 1686) hN t1 t2 t4 t5 t3 t6
  by_cases c : X < 6
  · have eX : (nI X).toInt = X := t_nI (by omega)
    have back : ∀ {v' : Nat → Int32} {f' : Nat → Nat → Int32} {X' : Nat} {C' : List Int32} {e' : Nat → Nat}, X' ≤ X + 1 → X ≤ X' → agV mK4 v v' → agF [1, 2] f f' → v' 6 = nI 0 → (∀ ti B, ti < X → TB B ti f → TB B ti f') → v' 3 = nI X' → (X' = X + 1 → ∃ B, TB B X f' ∧ TX B C' e') → MXs v' f' D r L D2 r2 L2 im X' [] (updC tC X C') (updE tE X e') sh := by
      intro v' f' X' C' e' k1 k2 a1 a2 k6 kt k3 kn
      refine ⟨m1.ag a1 a2 rfl rfl, m2.ag a1 a2 rfl rfl rfl, m3, by rw [a1.at 4 rfl]; exact m4, by omega, ⟨by omega, k3, k6, Nat.zero_le _, fun x hx => absurd hx List.not_mem_nil, fun i x h => absurd (show (none : Option Nat) = some x from h) (by simp), fun i hi => ?_⟩, ?_, fun i hi => (m8 i hi).ag a2 rfl⟩
      · unfold updC updE
        by_cases q : i = X
        · rw [if_pos q, if_pos q, q]
          exact kn (by omega)
        · rw [if_neg q, if_neg q]
          obtain ⟨B, hB, hX⟩ := t7 i (by omega)
          exact ⟨B, kt i B (by omega) hB, hX⟩
      · have := m7.ag (D' := D) a1 a2 rfl rfl ⟨[], (List.append_nil _).symm⟩
        rcases this with ⟨e, g⟩ | ⟨e, g1, g2, g3, g4⟩
        · exact Or.inl ⟨e, g⟩
        · exact Or.inr ⟨e, g1, g2, g3, by omega⟩
    by_cases ok : reOK T
    · refine ⟨hW.rA, ((cl_txt (P := fun z => z = nI X) (R := fun C e => TX T C e) (X' := X + 1) (T' := []) hW c (fun C e w1 w2 w3 k1 k2 k3 => (c_text hE c k1 k2 k3).post (fun z w' q => ?_)))).post (fun z w hq => ?_)⟩
      · obtain ⟨w1', w2', w3', q1, ⟨C2, e2, q2⟩, q3, q4⟩ := q
        have hro := (rdAll_iff (e0 := e) t4).mpr ok
        obtain ⟨g1, g2, g3⟩ := q3 hro
        exact ⟨g1, _, _, ⟨t4, e, hro, rfl, rfl⟩, (C2, e2), w1', w2', w3', q1, q2, g2, g3⟩
      · obtain ⟨hz, C', e', hR, hW1⟩ := hq
        refine ⟨hW1.rB, (hW1.ml hC8).post (fun z' w' hq => ?_)⟩
        obtain ⟨w1, ⟨-, hq⟩, hW2⟩ := hq
        obtain ⟨v', t', f', e, a1, a2, k6, kt, kx, kok, -⟩ := hq c
        obtain ⟨g1, g2⟩ := kok ok
        exact ⟨by rw [g1, hz], _, _, _, _, _, _, _, _, _, _, _, _, _, _, _, hW2 _ _ _ e, back (by omega) (by omega) a1 a2 k6 kt g2 (fun _ => ⟨T, kx, hR⟩)⟩
    · refine ⟨hW.rA, ((cl_txt (P := fun z => z = -100 - nI (reAt T)) (R := fun _ _ => True) (X' := X) (T' := []) hW c (fun C e w1 w2 w3 k1 k2 k3 => (c_text hE c k1 k2 k3).post (fun z w' q => ?_)))).post (fun z w hq => ?_)⟩
      · obtain ⟨w1', w2', w3', q1, ⟨C2, e2, q2⟩, q3, q4⟩ := q
        have hro := fun q => ok ((rdAll_iff (e0 := e) t4).mp q)
        obtain ⟨g1, g2, g3⟩ := q4 hro
        rw [rdAll_at t4] at g1
        exact ⟨g1, _, _, trivial, (C2, e2), w1', w2', w3', q1, q2, by rw [g2]; exact k3, g3⟩
      · obtain ⟨hz, C', e', hR, hW1⟩ := hq
        refine ⟨hW1.rB, (hW1.ml hC8).post (fun z' w' hq => ?_)⟩
        obtain ⟨w1, ⟨-, hq⟩, hW2⟩ := hq
        obtain ⟨v', t', f', e, a1, a2, k6, kt, kx, -, kno⟩ := hq c
        obtain ⟨g1, g2⟩ := kno ok
        exact ⟨by rw [g1, hz], _, _, _, _, _, _, _, _, _, _, _, _, _, _, _, hW2 _ _ _ e, back (by omega) (by omega) a1 a2 k6 kt g2 (fun q => by omega)⟩
  · have eX : X = 6 := by omega
    refine PR.mk (P := fun z => z = -4) hW (cl_one hW (fun w hw => by rw [hw]; exact c_textFull hN (by rw [eX]; decide))) (hC8.post (fun z w hq => ?_)) u_eq
    obtain ⟨h1, h2⟩ := hq.1 eX
    exact ⟨h1, v, t, f, h2, hM⟩
end S9p
