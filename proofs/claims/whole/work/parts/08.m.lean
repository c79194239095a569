theorem wmc_abs : Cond.code Lib.Math.abs.name Lib.Math.abs.code 1 (some .int) ∈ gw ∧ Cond.static Lib.Math.abs.name ∈ gw ∧ Cond.initialized "java/lang/Math" ∈ gw := ⟨gw_at (i := 582) (by decide +kernel) rfl, gw_at (i := 581) (by decide +kernel) rfl, gw_at (i := 89) (by decide +kernel) rfl⟩
theorem wmc_max : Cond.code Lib.Math.max.name Lib.Math.max.code 2 (some .int) ∈ gw ∧ Cond.static Lib.Math.max.name ∈ gw ∧ Cond.initialized "java/lang/Math" ∈ gw := ⟨gw_at (i := 395) (by decide +kernel) rfl, gw_at (i := 394) (by decide +kernel) rfl, gw_at (i := 89) (by decide +kernel) rfl⟩
theorem wmc_min : Cond.code Lib.Math.min.name Lib.Math.min.code 2 (some .int) ∈ gw ∧ Cond.static Lib.Math.min.name ∈ gw ∧ Cond.initialized "java/lang/Math" ∈ gw := ⟨gw_at (i := 398) (by decide +kernel) rfl, gw_at (i := 397) (by decide +kernel) rfl, gw_at (i := 89) (by decide +kernel) rfl⟩
theorem wm_J1_92 : Cond.methodLink RJ1 92 Lib.Math.max.name ∈ gw := gw_at (i := 393) (by decide +kernel) rfl
theorem wm_J1_38 : Cond.methodLink RJ1 38 Lib.Math.min.name ∈ gw := gw_at (i := 396) (by decide +kernel) rfl
theorem wm_J2_224 : Cond.methodLink RJ2 224 Lib.Math.max.name ∈ gw := gw_at (i := 405) (by decide +kernel) rfl
theorem wm_J2_183 : Cond.methodLink RJ2 183 Lib.Math.min.name ∈ gw := gw_at (i := 406) (by decide +kernel) rfl
theorem wm_X1_57 : Cond.methodLink RX1 57 Lib.Math.max.name ∈ gw := gw_at (i := 570) (by decide +kernel) rfl
theorem wm_X7_306 : Cond.methodLink RX7 306 Lib.Math.abs.name ∈ gw := gw_at (i := 580) (by decide +kernel) rfl
theorem wm_X7_184 : Cond.methodLink RX7 184 Lib.Math.min.name ∈ gw := gw_at (i := 583) (by decide +kernel) rfl
theorem wm_X7_303 : Cond.methodLink RX7 303 Lib.Math.max.name ∈ gw := gw_at (i := 588) (by decide +kernel) rfl
theorem wm_X3_43 : Cond.methodLink RX3 43 Lib.Math.abs.name ∈ gw := gw_at (i := 664) (by decide +kernel) rfl
theorem wm_X0_31 : Cond.methodLink RX0 31 Lib.Math.min.name ∈ gw := gw_at (i := 738) (by decide +kernel) rfl
theorem wm_X0_37 : Cond.methodLink RX0 37 Lib.Math.max.name ∈ gw := gw_at (i := 739) (by decide +kernel) rfl
theorem wm_X4_22 : Cond.methodLink RX4 22 Lib.Math.min.name ∈ gw := gw_at (i := 895) (by decide +kernel) rfl
theorem wm_X4_28 : Cond.methodLink RX4 28 Lib.Math.max.name ∈ gw := gw_at (i := 896) (by decide +kernel) rfl
section GM1
variable {E : GE} {M : GM} {d mc ms : Nat} {A : Nat → Prop} {Q : Option Value → va_W → Prop} {k n pc : Nat} {ls : List (Option Value)} {st : List Value} {ws : va_W}
theorem g_mabs {idx : Nat} {x : Int32} (hw : Cond.methodLink M.1.cls idx Lib.Math.abs.name ∈ gw) (hd : decode M.2.1 pc = .ok (.invokestatic idx, 3)) (hk : k ≤ mc) (hn : n ≤ ms) (hr : Nat.ble (st.map fun v => v.category).sum 8 = true) (kk : G E M (d + 1) mc ms A Q k n (pc + 3) ls (.int (if 0 ≤ x then x else 0 - x) :: st) ws) : G E M (d + 1) mc ms A Q k n pc ls (.int x :: st) ws := by
  intro p e s m args below meth c H locs ls0 hc hP hD hS hl
  have hw0 := hc.2.2.2.2.2.2.1
  exact va_mabs hc.1 hc.2.1 (hc.2.2.2.2.1.trans hl.1.symm) hc.2.2.2.2.2.1 (hw0 _ (List.mem_cons_of_mem _ hw)) (hw0 _ (List.mem_cons_of_mem _ wmc_abs.2.1)) (hw0 _ (List.mem_cons_of_mem _ wmc_abs.2.2)) (hw0 _ (List.mem_cons_of_mem _ wmc_abs.1)) (Nat.succ_le_succ (Nat.zero_le _)) (by have := Nat.le_of_ble_eq_true hr; show _ ≤ 48 * (d + 1); omega) hk hn hd (kk p e s m args below meth c H locs ls0 hc hP hD hS hl)
theorem g_mmax {idx : Nat} {x y : Int32} (hw : Cond.methodLink M.1.cls idx Lib.Math.max.name ∈ gw) (hd : decode M.2.1 pc = .ok (.invokestatic idx, 3)) (hk : k ≤ mc) (hn : n ≤ ms) (hr : Nat.ble (st.map fun v => v.category).sum 8 = true) (kk : G E M (d + 1) mc ms A Q k n (pc + 3) ls (.int (if x < y then y else x) :: st) ws) : G E M (d + 1) mc ms A Q k n pc ls (.int y :: .int x :: st) ws := by
  intro p e s m args below meth c H locs ls0 hc hP hD hS hl
  have hw0 := hc.2.2.2.2.2.2.1
  exact va_mmax hc.1 hc.2.1 (hc.2.2.2.2.1.trans hl.1.symm) hc.2.2.2.2.2.1 (hw0 _ (List.mem_cons_of_mem _ hw)) (hw0 _ (List.mem_cons_of_mem _ wmc_max.2.1)) (hw0 _ (List.mem_cons_of_mem _ wmc_max.2.2)) (hw0 _ (List.mem_cons_of_mem _ wmc_max.1)) (Nat.succ_le_succ (Nat.zero_le _)) (by have := Nat.le_of_ble_eq_true hr; show _ ≤ 48 * (d + 1); omega) hk hn hd (kk p e s m args below meth c H locs ls0 hc hP hD hS hl)
theorem g_mmin {idx : Nat} {x y : Int32} (hw : Cond.methodLink M.1.cls idx Lib.Math.min.name ∈ gw) (hd : decode M.2.1 pc = .ok (.invokestatic idx, 3)) (hk : k ≤ mc) (hn : n ≤ ms) (hr : Nat.ble (st.map fun v => v.category).sum 8 = true) (kk : G E M (d + 1) mc ms A Q k n (pc + 3) ls (.int (if y < x then y else x) :: st) ws) : G E M (d + 1) mc ms A Q k n pc ls (.int y :: .int x :: st) ws := by
  intro p e s m args below meth c H locs ls0 hc hP hD hS hl
  have hw0 := hc.2.2.2.2.2.2.1
  exact va_mmin hc.1 hc.2.1 (hc.2.2.2.2.1.trans hl.1.symm) hc.2.2.2.2.2.1 (hw0 _ (List.mem_cons_of_mem _ hw)) (hw0 _ (List.mem_cons_of_mem _ wmc_min.2.1)) (hw0 _ (List.mem_cons_of_mem _ wmc_min.2.2)) (hw0 _ (List.mem_cons_of_mem _ wmc_min.1)) (Nat.succ_le_succ (Nat.zero_le _)) (by have := Nat.le_of_ble_eq_true hr; show _ ≤ 48 * (d + 1); omega) hk hn hd (kk p e s m args below meth c H locs ls0 hc hP hD hS hl)
end GM1
def g_nest : List Cond := [Cond.methodLinkNest RX7 9 yX1_init RX7, Cond.methodLinkNest RX1 29 yX3_init RX7, Cond.methodLinkNest RX7 25 yX3_init RX7, Cond.methodLinkNest RX7 35 yX0_init RX7, Cond.methodLinkNest RX7 42 yX2_init RX7, Cond.methodLinkNest RX2 17 yX5_init RX7, Cond.methodLinkNest RX7 78 yX5_init RX7, Cond.methodLinkNest RX7 79 yX4_init RX7, Cond.methodLinkNest RX2 85 yX7_isWithin RX7, Cond.methodLinkNest RX5 32 yX7_isWithin RX7, Cond.methodLinkNest RX1 45 yX7_bit RX7, Cond.methodLinkNest RX1 49 yX7_isWithin RX7, Cond.methodLinkNest RX3 52 yX7_bit RX7, Cond.methodLinkNest RX0 53 yX7_bit RX7, Cond.methodLinkNest RX4 31 yX7_isWithin RX7]
theorem g_nest_in : ∀ w ∈ g_nest, w ∈ lw_tbl := by
  intro w hw
  have h : g_nest = [104, 110, 174, 177, 204, 210, 257, 259, 477, 485, 632, 643, 695, 756, 905].filterMap (fun i => lw_tbl[i]?) := by decide +kernel
  rw [h] at hw
  obtain ⟨i, -, hi⟩ := List.mem_filterMap.mp hw
  exact List.mem_of_getElem? hi
def g_N (E : GE) : Prop := g_St E ∧ ∀ (s : State) (H : Heap), E.2.2.2.2 s H → ∀ w ∈ g_nest, va_Nw w s
theorem mn_X7_9 {E : GE} (h : g_N E) : MIN E RX7 9 mX1_init 0 := ⟨mb_X1_init, gw_at (i := 105) (by decide +kernel) rfl, rfl, rfl, RX7, fun s H hs => h.2 s H hs _ (List.mem_of_getElem? (i := 0) rfl)⟩
theorem mn_X1_29 {E : GE} (h : g_N E) : MIN E RX1 29 mX3_init 0 := ⟨mb_X3_init, gw_at (i := 111) (by decide +kernel) rfl, rfl, rfl, RX7, fun s H hs => h.2 s H hs _ (List.mem_of_getElem? (i := 1) rfl)⟩
theorem mn_X7_25 {E : GE} (h : g_N E) : MIN E RX7 25 mX3_init 0 := ⟨mb_X3_init, gw_at (i := 111) (by decide +kernel) rfl, rfl, rfl, RX7, fun s H hs => h.2 s H hs _ (List.mem_of_getElem? (i := 2) rfl)⟩
theorem mn_X7_35 {E : GE} (h : g_N E) : MIN E RX7 35 mX0_init 0 := ⟨mb_X0_init, gw_at (i := 178) (by decide +kernel) rfl, rfl, rfl, RX7, fun s H hs => h.2 s H hs _ (List.mem_of_getElem? (i := 3) rfl)⟩
theorem mn_X7_42 {E : GE} (h : g_N E) : MIN E RX7 42 mX2_init 0 := ⟨mb_X2_init, gw_at (i := 205) (by decide +kernel) rfl, rfl, rfl, RX7, fun s H hs => h.2 s H hs _ (List.mem_of_getElem? (i := 4) rfl)⟩
theorem mn_X2_17 {E : GE} (h : g_N E) : MIN E RX2 17 mX5_init 0 := ⟨mb_X5_init, gw_at (i := 211) (by decide +kernel) rfl, rfl, rfl, RX7, fun s H hs => h.2 s H hs _ (List.mem_of_getElem? (i := 5) rfl)⟩
theorem mn_X7_78 {E : GE} (h : g_N E) : MIN E RX7 78 mX5_init 0 := ⟨mb_X5_init, gw_at (i := 211) (by decide +kernel) rfl, rfl, rfl, RX7, fun s H hs => h.2 s H hs _ (List.mem_of_getElem? (i := 6) rfl)⟩
theorem mn_X7_79 {E : GE} (h : g_N E) : MIN E RX7 79 mX4_init 0 := ⟨mb_X4_init, gw_at (i := 260) (by decide +kernel) rfl, rfl, rfl, RX7, fun s H hs => h.2 s H hs _ (List.mem_of_getElem? (i := 7) rfl)⟩
theorem mn_X2_85 {E : GE} (h : g_N E) : MSN E RX2 85 mX7_isWithin 3 := ⟨mb_X7_isWithin, gw_at (i := 478) (by decide +kernel) rfl, RX7, fun s H hs => h.2 s H hs _ (List.mem_of_getElem? (i := 8) rfl)⟩
theorem mn_X5_32 {E : GE} (h : g_N E) : MSN E RX5 32 mX7_isWithin 3 := ⟨mb_X7_isWithin, gw_at (i := 478) (by decide +kernel) rfl, RX7, fun s H hs => h.2 s H hs _ (List.mem_of_getElem? (i := 9) rfl)⟩
theorem mn_X1_45 {E : GE} (h : g_N E) : MSN E RX1 45 mX7_bit 1 := ⟨mb_X7_bit, gw_at (i := 633) (by decide +kernel) rfl, RX7, fun s H hs => h.2 s H hs _ (List.mem_of_getElem? (i := 10) rfl)⟩
theorem mn_X1_49 {E : GE} (h : g_N E) : MSN E RX1 49 mX7_isWithin 3 := ⟨mb_X7_isWithin, gw_at (i := 478) (by decide +kernel) rfl, RX7, fun s H hs => h.2 s H hs _ (List.mem_of_getElem? (i := 11) rfl)⟩
theorem mn_X3_52 {E : GE} (h : g_N E) : MSN E RX3 52 mX7_bit 1 := ⟨mb_X7_bit, gw_at (i := 633) (by decide +kernel) rfl, RX7, fun s H hs => h.2 s H hs _ (List.mem_of_getElem? (i := 12) rfl)⟩
theorem mn_X0_53 {E : GE} (h : g_N E) : MSN E RX0 53 mX7_bit 1 := ⟨mb_X7_bit, gw_at (i := 633) (by decide +kernel) rfl, RX7, fun s H hs => h.2 s H hs _ (List.mem_of_getElem? (i := 13) rfl)⟩
theorem mn_X4_31 {E : GE} (h : g_N E) : MSN E RX4 31 mX7_isWithin 3 := ⟨mb_X7_isWithin, gw_at (i := 478) (by decide +kernel) rfl, RX7, fun s H hs => h.2 s H hs _ (List.mem_of_getElem? (i := 14) rfl)⟩
