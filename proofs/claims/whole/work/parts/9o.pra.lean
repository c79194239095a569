/-! each call on both sides: dogs, plait -/
section S9o
variable {E : GE} {adK adV ta : Nat → Nat} {a b : Nat → Nat} {ws : va_W}
set_option maxHeartbeats 1000000 in
theorem p_dog (hE : g_E E adK adV ta) (h : LW E a b ws) (x y z : Int32) : PRi E a b mX7_dog [.ref (a 0), .int x, .int y, .int z] mX8_dog [.ref (b 0), .int x, .int y, .int z] ws := by
  have hN := g_E_N hE
  obtain ⟨D, r, L, D2, r2, L2, im, X, T, tC, tE, sh, v, t, f, hW, hM⟩ := h
  obtain ⟨hD, hD2, hL, hL2⟩ := hW.dg
  refine PR.mk hW (cl_Apk hW (fun w hw => c_dog hN hw x y z)) ((c_X8_dog hN hD hM.1 hL hM.2.1.2.1 x y z).post (fun u w hq => ?_)) u_eq
  obtain ⟨h1, v', f', rfl, a1, a2, m⟩ := hq
  have hp := sDog_pli x y z hM.2.2.1
  exact ⟨h1, v', t, f', rfl, hM.go a1 a2 rfl rfl m (hM.2.1.ag a1 a2 rfl rfl rfl) hp.1 hp.2 (by rw [a1.at 4 rfl]; exact hM.2.2.2.1) hM.2.2.2.2.1⟩
set_option maxHeartbeats 1000000 in
theorem p_set (hE : g_E E adK adV ta) (h : LW E a b ws) (x y z : Int32) : PRi E a b mX7_set [.ref (a 0), .int x, .int y, .int z] mX8_set [.ref (b 0), .int x, .int y, .int z] ws := by
  have hN := g_E_N hE
  obtain ⟨D, r, L, D2, r2, L2, im, X, T, tC, tE, sh, v, t, f, hW, hM⟩ := h
  obtain ⟨hD, hD2, hL, hL2⟩ := hW.dg
  refine PR.mk hW (cl_Apk hW (fun w hw => c_set hN hw x y z)) ((c_X8_set hN hD hM.1 x y z).post (fun u w hq => ?_)) u_eq
  obtain ⟨h1, f', rfl, a2, m⟩ := hq
  have hp := sSet_pli x y z hM.2.2.1
  exact ⟨h1, v, t, f', rfl, hM.go (S1 := []) agV.rf a2 rfl rfl m (hM.2.1.ag (S1 := []) agV.rf a2 rfl rfl rfl) hp.1 ⟨[], by rw [hp.2, List.append_nil]⟩ hM.2.2.2.1 hM.2.2.2.2.1⟩
set_option maxHeartbeats 1000000 in
theorem p_told (hE : g_E E adK adV ta) (h : LW E a b ws) (x y : Int32) : PRi E a b mX7_told [.ref (a 0), .int x, .int y] mX8_told [.ref (b 0), .int x, .int y] ws := by
  have hN := g_E_N hE
  obtain ⟨D, r, L, D2, r2, L2, im, X, T, tC, tE, sh, v, t, f, hW, hM⟩ := h
  obtain ⟨hD, hD2, hL, hL2⟩ := hW.dg
  refine PR.mk hW (cl_Apk hW (fun w hw => (c_told hN hw x y).post (fun z w' q => ⟨q.1, by rw [q.2]; exact hw⟩))) ((c_X8_told hN hD hM.1 x y).post (fun z w hq => ⟨hq.1, v, t, f, hq.2, hM⟩)) u_int
set_option maxHeartbeats 1000000 in
theorem p_asks (hE : g_E E adK adV ta) (h : LW E a b ws) (x y z : Int32) : PRi E a b mX7_asks [.ref (a 0), .int x, .int y, .int z] mX8_asks [.ref (b 0), .int x, .int y, .int z] ws := by
  have hN := g_E_N hE
  obtain ⟨D, r, L, D2, r2, L2, im, X, T, tC, tE, sh, v, t, f, hW, hM⟩ := h
  obtain ⟨hD, hD2, hL, hL2⟩ := hW.dg
  obtain ⟨hr6, hok, B, hTB, hTX⟩ := hM.rule
  refine PR.mk hW (cl_Arl hW hr6 hok (fun w hw => c_asks hE hw x y z)) ((c_X8_asks hN hD hM.1 hM.2.2.2.1 hr6 hTB hTX x y z).post (fun z w hq => ?_)) u_int
  obtain ⟨h1, v', t', rfl, a1⟩ := hq
  exact ⟨h1, v', t', f, rfl, hM.go0 (S2 := []) a1 agF.rf rfl rfl⟩
set_option maxHeartbeats 1000000 in
theorem p_feed (hE : g_E E adK adV ta) (h : LW E a b ws) (x : Int32) : PRi E a b mX7_feed [.ref (a 0), .int x] mX8_feed [.ref (b 0), .int x] ws := by
  have hN := g_E_N hE
  obtain ⟨D, r, L, D2, r2, L2, im, X, T, tC, tE, sh, v, t, f, hW, hM⟩ := h
  obtain ⟨m1, m2, m3, m4, m5, ⟨t1, t2, t3, t4, t5, t6, t7⟩, m7, m8⟩ := id hM
  refine PR.mk hW (cl_fed hW (fun w hw => by obtain ⟨w1, hw1, rfl⟩ := hw; exact c_feed hN hw1 x)) ((c_X8_feed hN t4 t3 t6 x).post (fun z w hq => ?_)) u_eq
  obtain ⟨h1, v', f', rfl, a1, a2, n1, n2⟩ := hq
  refine ⟨h1, v', t, f', rfl, m1.ag a1 a2 rfl rfl, m2.ag a1 a2 rfl rfl rfl, m3, by rw [a1.at 4 rfl]; exact m4, m5, ⟨t1, by rw [a1.at 3 rfl]; exact t2, n1, ?_, ?_, n2, fun i hi => ?_⟩, m7.ag a1 a2 rfl rfl ⟨[], (List.append_nil _).symm⟩, fun i hi => (m8 i hi).ag a2 rfl⟩
  · unfold sFeed
    split
    · exact t4
    · split
      · exact t4
      · dsimp only
        rw [List.length_append]
        show T.length + 1 ≤ 160
        omega
  · unfold sFeed
    split
    · exact t5
    · split
      · exact t5
      · intro y hy
        rcases List.mem_append.mp hy with q | q
        · exact t5 y q
        · rw [List.mem_singleton.mp q]
          omega
  · obtain ⟨B, hB, hX⟩ := t7 i hi
    exact ⟨B, hB.ag a2 rfl rfl, hX⟩
set_option maxHeartbeats 1000000 in
theorem p_force (hE : g_E E adK adV ta) (h : LW E a b ws) (x : Int32) : PRi E a b mX7_force [.ref (a 0), .int x] mX8_force [.ref (b 0), .int x] ws := by
  have hN := g_E_N hE
  obtain ⟨D, r, L, D2, r2, L2, im, X, T, tC, tE, sh, v, t, f, hW, hM⟩ := h
  have hX6 := hM.2.2.2.2.2.1.1
  refine PR.mk hW (cl_Apk hW (fun w hw => c_force hN hX6 hw x)) ((c_X8_force hN hX6 hM.2.2.2.2.2.1.2.1 hM.2.2.2.1 x).post (fun z w hq => ?_)) u_eq
  obtain ⟨h1, v', rfl, a1, n1⟩ := hq
  refine ⟨h1, v', t, f, rfl, hM.go (S2 := []) a1 agF.rf rfl rfl (hM.1.ag (S2 := []) a1 agF.rf rfl rfl) (hM.2.1.ag (S2 := []) a1 agF.rf rfl rfl rfl) hM.2.2.1 ⟨[], (List.append_nil _).symm⟩ n1 ?_⟩
  unfold sForce
  split
  · dsimp only; omega
  · exact hM.2.2.2.2.1
set_option maxHeartbeats 1000000 in
theorem p_cross (hE : g_E E adK adV ta) (h : LW E a b ws) (x y : Int32) : PRi E a b mX7_cross [.ref (a 0), .int x, .int y] mX8_cross [.ref (b 0), .int x, .int y] ws := by
  have hN := g_E_N hE
  obtain ⟨D, r, L, D2, r2, L2, im, X, T, tC, tE, sh, v, t, f, hW, hM⟩ := h
  obtain ⟨hD, hD2, hL, hL2⟩ := hW.dg
  refine PR.mk hW (cl_Apk hW (fun w hw => c_cross hN hw x y)) ((c_X8_cross hN hD hM.1 hM.2.1 x y).post (fun z w hq => ?_)) u_eq
  obtain ⟨h1, v', f', rfl, a1, a2, n1, n2⟩ := hq
  exact ⟨h1, v', t, f', rfl, hM.go a1 a2 rfl rfl n1 n2 (sCross_pli hD _ _ hM.2.2.1) ⟨[], by rw [sCross_kd, List.append_nil]⟩ (by rw [a1.at 4 rfl]; exact hM.2.2.2.1) hM.2.2.2.2.1⟩
set_option maxHeartbeats 1000000 in
theorem p_undo (hE : g_E E adK adV ta) (h : LW E a b ws) : PRi E a b mX7_undo [.ref (a 0)] mX8_undo [.ref (b 0)] ws := by
  have hN := g_E_N hE
  obtain ⟨D, r, L, D2, r2, L2, im, X, T, tC, tE, sh, v, t, f, hW, hM⟩ := h
  obtain ⟨hD, hD2, hL, hL2⟩ := hW.dg
  obtain ⟨O, hO⟩ := hM.2.2.1
  have hv : ∀ c ∈ L, c.1 + 1 < D.1.length := fun c hc => (hO.ok hD c hc).1
  refine PR.mk hW (cl_Apk hW (fun w hw => c_undo hN hw hv)) ((c_X8_undo hN hD hM.1 hM.2.1 hv).post (fun z w hq => ?_)) u_eq
  obtain ⟨h1, v', f', rfl, a1, a2, n1, n2⟩ := hq
  have hp := sUndo_pli hD hM.2.2.1
  exact ⟨h1, v', t, f', rfl, hM.go a1 a2 rfl rfl n1 n2 hp.1 ⟨[], by rw [hp.2, List.append_nil]⟩ (by rw [a1.at 4 rfl]; exact hM.2.2.2.1) hM.2.2.2.2.1⟩
set_option maxHeartbeats 1000000 in
theorem p_comb (hE : g_E E adK adV ta) (h : LW E a b ws) : PRi E a b mX7_comb [.ref (a 0)] mX8_comb [.ref (b 0)] ws := by
  have hN := g_E_N hE
  obtain ⟨D, r, L, D2, r2, L2, im, X, T, tC, tE, sh, v, t, f, hW, hM⟩ := h
  obtain ⟨hD, hD2, hL, hL2⟩ := hW.dg
  obtain ⟨O, hO⟩ := hM.2.2.1
  refine PR.mk hW (cl_Atg hW (fun Lt w hw => (c_comb hN hw).post (fun z w' q => ⟨q.1, _, q.2⟩))) ((c_X8_comb hN hD hM.1 hM.2.1 hO).post (fun z w hq => ?_)) u_eq
  obtain ⟨h1, v', f', rfl, a1, a2, n1, n2⟩ := hq
  exact ⟨h1, v', t, f', rfl, hM.go a1 a2 rfl rfl n1 n2 ⟨O, hO.comb⟩ ⟨[], (List.append_nil _).symm⟩ (by rw [a1.at 4 rfl]; exact hM.2.2.2.1) hM.2.2.2.2.1⟩
set_option maxHeartbeats 1000000 in
theorem p_at (hE : g_E E adK adV ta) (h : LW E a b ws) (x : Int32) : PRi E a b mX7_at [.ref (a 0), .int x] mX8_at [.ref (b 0), .int x] ws := by
  have hN := g_E_N hE
  obtain ⟨D, r, L, D2, r2, L2, im, X, T, tC, tE, sh, v, t, f, hW, hM⟩ := h
  obtain ⟨hD, hD2, hL, hL2⟩ := hW.dg
  exact PR.mk hW (cl_Apk hW (fun w hw => (c_at hN hw x).post (fun z w' q => ⟨q.1, by rw [q.2]; exact hw⟩))) ((c_X8_at hN hD hM.1 x).post (fun z w hq => ⟨hq.1, v, t, f, hq.2, hM⟩)) u_eq
set_option maxHeartbeats 1000000 in
theorem p_left (hE : g_E E adK adV ta) (h : LW E a b ws) (x : Int32) : PRi E a b mX7_left [.ref (a 0), .int x] mX8_left [.ref (b 0), .int x] ws := by
  have hN := g_E_N hE
  obtain ⟨D, r, L, D2, r2, L2, im, X, T, tC, tE, sh, v, t, f, hW, hM⟩ := h
  obtain ⟨hD, hD2, hL, hL2⟩ := hW.dg
  obtain ⟨O, hO⟩ := hM.2.2.1
  refine PR.mk hW (cl_Atg hW (fun Lt w hw => (c_left hN hw x).post (fun z w' q => ⟨q.1, _, q.2⟩))) ((c_X8_left hN hD hM.1 hM.2.1 hO x).post (fun z w hq => ?_)) u_eq
  obtain ⟨h1, v', f', rfl, a1, a2, n1⟩ := hq
  exact ⟨h1, v', t, f', rfl, hM.go1 a1 a2 rfl rfl n1⟩
set_option maxHeartbeats 1000000 in
theorem p_who (hE : g_E E adK adV ta) (h : LW E a b ws) (x y : Int32) : PRi E a b mX7_who [.ref (a 0), .int x, .int y] mX8_who [.ref (b 0), .int x, .int y] ws := by
  have hN := g_E_N hE
  obtain ⟨D, r, L, D2, r2, L2, im, X, T, tC, tE, sh, v, t, f, hW, hM⟩ := h
  obtain ⟨hD, hD2, hL, hL2⟩ := hW.dg
  obtain ⟨O, hO⟩ := hM.2.2.1
  refine PR.mk hW (cl_Atg hW (fun Lt w hw => (c_who hN hw (hO.ok hD) hD.1 x y).post (fun z w' q => ⟨q.1, by rcases q.2 with q | q; exact ⟨_, by rw [q]; exact hw⟩; exact ⟨_, q⟩⟩))) ((c_X8_who hN hD hM.1 hM.2.1 hO x y).post (fun z w hq => ?_)) u_eq
  obtain ⟨h1, v', f', rfl, a1, a2, n1⟩ := hq
  exact ⟨h1, v', t, f', rfl, hM.go1 a1 a2 rfl rfl n1⟩
set_option maxHeartbeats 1000000 in
theorem p_without (hE : g_E E adK adV ta) (h : LW E a b ws) (x : Int32) : PRi E a b mX7_without [.ref (a 0), .int x] mX8_without [.ref (b 0), .int x] ws := by
  have hN := g_E_N hE
  obtain ⟨D, r, L, D2, r2, L2, im, X, T, tC, tE, sh, v, t, f, hW, hM⟩ := h
  obtain ⟨hD, hD2, hL, hL2⟩ := hW.dg
  obtain ⟨O, hO⟩ := hM.2.2.1
  refine PR.mk hW (cl_Ath hW (fun w hw => c_without hN hw (hO.ok hD) hD.1 x)) ((c_X8_without hN hD hM.1 hM.2.1 hO x).post (fun z w hq => ?_)) u_eq
  obtain ⟨h1, v', f', rfl, a1, a2, n1⟩ := hq
  exact ⟨h1, v', t, f', rfl, hM.go1 a1 a2 rfl rfl n1⟩
set_option maxHeartbeats 1000000 in
theorem p_unclip (hE : g_E E adK adV ta) (h : LW E a b ws) (x : Int32) : PRi E a b mX7_unclip [.ref (a 0), .int x] mX8_unclip [.ref (b 0), .int x] ws := by
  have hN := g_E_N hE
  obtain ⟨D, r, L, D2, r2, L2, im, X, T, tC, tE, sh, v, t, f, hW, hM⟩ := h
  obtain ⟨hD, hD2, hL, hL2⟩ := hW.dg
  obtain ⟨O, hO⟩ := hM.2.2.1
  refine PR.mk hW (cl_Ath hW (fun w hw => c_unclip hN hw (hO.ok hD) hD.1 x)) ((c_X8_unclip hN hD hM.1 hM.2.1 hO x).post (fun z w hq => ?_)) u_eq
  obtain ⟨h1, v', f', rfl, a1, a2, n1⟩ := hq
  exact ⟨h1, v', t, f', rfl, hM.go1 a1 a2 rfl rfl n1⟩
set_option maxHeartbeats 1000000 in
theorem p_cost (hE : g_E E adK adV ta) (h : LW E a b ws) : PRi E a b mX7_cost [.ref (a 0)] mX8_cost [.ref (b 0)] ws := by
  have hN := g_E_N hE
  obtain ⟨D, r, L, D2, r2, L2, im, X, T, tC, tE, sh, v, t, f, hW, hM⟩ := h
  obtain ⟨hD, hD2, hL, hL2⟩ := hW.dg
  obtain ⟨O, hO⟩ := hM.2.2.1
  obtain ⟨hr6, hok, B, hTB, hTX⟩ := hM.rule
  refine PR.mk hW (cl_Acs hW hr6 hok (fun Lt w hw => (c_cost hE hw (hO.ok hD)).post (fun z w' q => ⟨q.1, _, q.2⟩))) ((c_X8_cost hN hD hM.1 hM.2.1 hO hM.2.2.2.1 hr6 hTB hTX).post (fun z w hq => ?_)) u_int
  obtain ⟨h1, v', t', f', rfl, a1, a2, n1⟩ := hq
  exact ⟨h1, v', t', f', rfl, hM.go1 a1 a2 rfl rfl n1⟩
set_option maxHeartbeats 1000000 in
theorem p_drawn (hE : g_E E adK adV ta) (h : LW E a b ws) (x y : Int32) : PRi E a b mX7_drawn [.ref (a 0), .int x, .int y] mX8_drawn [.ref (b 0), .int x, .int y] ws := by
  have hN := g_E_N hE
  obtain ⟨D, r, L, D2, r2, L2, im, X, T, tC, tE, sh, v, t, f, hW, hM⟩ := h
  obtain ⟨hD, hD2, hL, hL2⟩ := hW.dg
  refine PR.mk hW (cl_Ath hW (fun w hw => c_drawn hN hw x y)) ((c_X8_drawn hN hD hM.1 x y).post (fun z w hq => ?_)) u_eq
  obtain ⟨h1, v', f', rfl, a1, a2⟩ := hq
  exact ⟨h1, v', t, f', rfl, hM.go0 a1 a2 rfl rfl⟩
set_option maxHeartbeats 1000000 in
theorem p_chance (hE : g_E E adK adV ta) (h : LW E a b ws) (x y z s q : Int32) : PRl E a b mX7_chance [.ref (a 0), .int x, .int y, .int z, .int s, .int q] mX8_chance [.ref (b 0), .int x, .int y, .int z, .int s, .int q] ws := by
  have hN := g_E_N hE
  obtain ⟨D, r, L, D2, r2, L2, im, X, T, tC, tE, sh, v, t, f, hW, hM⟩ := h
  obtain ⟨hD, hD2, hL, hL2⟩ := hW.dg
  refine PR.mkL hW (cl_AthL hW (fun w hw => c_chance hN hw x y z s q)) ((c_X8_chance hN hD hM.1 x y z s q).post (fun z w hq => ?_)) u_eq
  obtain ⟨h1, v', f', rfl, a1, a2⟩ := hq
  exact ⟨h1, v', t, f', rfl, hM.go0 a1 a2 rfl rfl⟩
set_option maxHeartbeats 1000000 in
theorem p_taken (hE : g_E E adK adV ta) (h : LW E a b ws) (x y : Int32) : PRi E a b mX7_taken [.ref (a 0), .int x, .int y] mX8_taken [.ref (b 0), .int x, .int y] ws := by
  have hN := g_E_N hE
  obtain ⟨D, r, L, D2, r2, L2, im, X, T, tC, tE, sh, v, t, f, hW, hM⟩ := h
  obtain ⟨hD, hD2, hL, hL2⟩ := hW.dg
  exact PR.mk hW (cl_Apk hW (fun w hw => (c_taken hE hw x y).post (fun z w' q => ⟨q.1, by rw [q.2]; exact hw⟩))) ((c_X8_taken hN hD hM.1 x y).post (fun z w hq => ⟨hq.1, v, t, f, hq.2, hM⟩)) u_eq
set_option maxHeartbeats 1000000 in
theorem p_post (hE : g_E E adK adV ta) (h : LW E a b ws) (x y : Int32) : PRi E a b mX7_post [.ref (a 0), .int x, .int y] mX8_post [.ref (b 0), .int x, .int y] ws := by
  have hN := g_E_N hE
  obtain ⟨D, r, L, D2, r2, L2, im, X, T, tC, tE, sh, v, t, f, hW, hM⟩ := h
  obtain ⟨hD, hD2, hL, hL2⟩ := hW.dg
  exact PR.mk hW (cl_Apk hW (fun w hw => (c_post hN hw x y).post (fun z w' q => ⟨q.1, by rw [q.2]; exact hw⟩))) ((c_X8_post hN hD hM.1 x y).post (fun z w hq => ⟨hq.1, v, t, f, hq.2, hM⟩)) u_int
set_option maxHeartbeats 1000000 in
theorem p_bestPost (hE : g_E E adK adV ta) (h : LW E a b ws) (x : Int32) : PRi E a b mX7_bestPost [.ref (a 0), .int x] mX8_bestPost [.ref (b 0), .int x] ws := by
  have hN := g_E_N hE
  obtain ⟨D, r, L, D2, r2, L2, im, X, T, tC, tE, sh, v, t, f, hW, hM⟩ := h
  obtain ⟨hD, hD2, hL, hL2⟩ := hW.dg
  exact PR.mk hW (cl_Apk hW (fun w hw => (c_bestPost hN hw x).post (fun z w' q => ⟨q.1, by rw [q.2]; exact hw⟩))) ((c_X8_bestPost hN hD hM.1 x).post (fun z w hq => ⟨hq.1, v, t, f, hq.2, hM⟩)) u_eq
end S9o
