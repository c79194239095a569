def strL : List (String × Nat × String) := [("DogsOnLeads", 80, "odds pace ; worth 10 - pace ; minds 1 ;"), ("DogsOnLeads$Token", 7, "one"), ("DogsOnLeads$Token", 9, "other"), ("DogsOnLeads$Token", 11, "pace"), ("DogsOnLeads$Token", 13, "near"), ("DogsOnLeads$Token", 15, "many"), ("DogsOnLeads$Token", 17, "hand"), ("DogsOnLeads$Token", 19, "odds"), ("DogsOnLeads$Token", 21, "worth"), ("DogsOnLeads$Token", 23, "minds"), ("DogsOnLeads$Token", 25, "or"), ("DogsOnLeads$Token", 27, "and"), ("DogsOnLeads$Token", 29, "not"), ("DogsOnLeads$Token", 31, ""), ("DogsOnLeads$Reader", 102, "();+-*<=")]
def lenS : List Nat := [39, 3, 5, 4, 4, 4, 4, 4, 5, 5, 2, 3, 3, 0, 8]
def bytS : List (List Int32) := [[111, 100, 100, 115, 32, 112, 97, 99, 101, 32, 59, 32, 119, 111, 114, 116, 104, 32, 49, 48, 32, 45, 32, 112, 97, 99, 101, 32, 59, 32, 109, 105, 110, 100, 115, 32, 49, 32, 59], [111, 110, 101], [111, 116, 104, 101, 114], [112, 97, 99, 101], [110, 101, 97, 114], [109, 97, 110, 121], [104, 97, 110, 100], [111, 100, 100, 115], [119, 111, 114, 116, 104], [109, 105, 110, 100, 115], [111, 114], [97, 110, 100], [110, 111, 116], [], [40, 41, 59, 43, 45, 42, 60, 61]]
def kaF (j : Nat) : Int32 := ([-1, 0, 0, 1, 2, 1] : List Int32).getD j 0
def lpF (j : Nat) : Int32 := ([0, -99, 0] : List Int32).getD j 0
def mpF (j : Nat) : Int32 := ([99, 99, 99] : List Int32).getD j 0
def A0 (B : Nat) : Nat → Prop := fun q => B ≤ q
def g_Sta (B : Nat) (adK adV ta : Nat → Nat) : State → Heap → Prop := fun U H => (∀ w ∈ g_nest, va_Nw w U) ∧ vk_S 15 lenS bytS adK adV (A0 B) U H ∧ (∀ (i : Nat) (q : String × Nat × String), strL[i]? = some q → vk_R q.1 q.2.1 q.2.2 (adK i) U) ∧ va_Z "java/lang/String" "COMPACT_STRINGS" "Z" (.int 1) (A0 B) U H ∧ va_Zq "jdk/internal/util/Preconditions" "SIOOBE_FORMATTER" "Ljava/util/function/BiFunction;" (A0 B) U H ∧
  (va_Z "DogsOnLeads" "KIND_ABOVE" "[I" (.ref (ta 0)) (A0 B) U H ∧ va_T .int (ta 0) 6 (fun j => .int (kaF j)) (A0 B) U H) ∧ (va_Z "DogsOnLeads" "LEAST_OF_PART" "[I" (.ref (ta 1)) (A0 B) U H ∧ va_T .int (ta 1) 3 (fun j => .int (lpF j)) (A0 B) U H) ∧ (va_Z "DogsOnLeads" "MOST_OF_PART" "[I" (.ref (ta 2)) (A0 B) U H ∧ va_T .int (ta 2) 3 (fun j => .int (mpF j)) (A0 B) U H)
/-- the statics of this launch -/
def g_E (E : GE) (adK adV ta : Nat → Nat) : Prop := E.2.2.2.2 = g_Sta E.2.2.2.1 adK adV ta
theorem g_nest_warm {s U : State} (hW : s.WarmedH U.vm) (h : ∀ w ∈ g_nest, va_Nw w s) : ∀ w ∈ g_nest, va_Nw w U := by
  intro w hw
  have h1 := h w hw
  unfold g_nest at hw
  simp only [List.mem_cons, List.not_mem_nil, or_false] at hw
  rcases hw with rfl | rfl | rfl | rfl | rfl | rfl | rfl | rfl | rfl | rfl | rfl | rfl | rfl | rfl | rfl <;> exact va_Nw.warmM hW h1
theorem g_E_N {E : GE} {adK adV ta : Nat → Nat} (hE : g_E E adK adV ta) : g_N E := by
  refine ⟨?_, ?_⟩
  · intro s U H H' hW hq hs
    rw [hE] at hs ⊢
    obtain ⟨h1, h2, h3, h4, h5, ⟨h6, h7⟩, ⟨h8, h9⟩, h10, h11⟩ := hs
    have hk : ∀ a : Nat, a < H.size → ¬ A0 E.2.2.2.1 a → H'[a]? = H[a]? := fun a _ h => hq a (Nat.not_le.mp h)
    have hv := hW.alike
    exact ⟨g_nest_warm hW h1, (h2.kept hk).moved hv, fun i q hi => (h3 i q hi).warm hW, (h4.kept hk).moved hv, (h5.kept hk).moved hv, ⟨(h6.kept hk).moved hv, (h7.kept hk).moved hv⟩, ⟨(h8.kept hk).moved hv, (h9.kept hk).moved hv⟩, (h10.kept hk).moved hv, (h11.kept hk).moved hv⟩
  · intro s H hs
    rw [hE] at hs
    exact hs.1
section G30
variable {E : GE} {M : GM} {d mc ms : Nat} {A : Nat → Prop} {Q : Option Value → va_W → Prop} {k n pc : Nat} {ls : List (Option Value)} {st : List Value} {ws : va_W} {adK adV ta : Nat → Nat}
theorem g_sta {p : Program} {s : State} {m : MethodId} {args : Array Value} {meth : Method} {c : Code} (hE : g_E E adK adV ta) (hc : g_ctx E M A p s m args meth c) : g_Sta E.2.2.2.1 adK adV ta s s.heap ∧ ∀ q, A q → A0 E.2.2.2.1 q := by
  have h := hc.2.2.2.2.2.2.2.2.1
  rw [hE] at h
  exact ⟨h, hc.2.2.2.2.2.2.2.2.2.1⟩
theorem g_ldcS (hE : g_E E adK adV ta) {idx : Nat} (i : Nat) {tx : String} (hi : strL[i]? = some (M.1.cls, idx, tx)) (hd : decode M.2.1 pc = .ok (.ldc idx, 2)) (kk : G E M d mc ms A Q k n (pc + 2) ls (.ref (adK i) :: st) ws) : G E M d mc ms A Q k n pc ls st ws := by
  intro p e s m args below meth c H locs ls0 hc hP hD hS hl
  obtain ⟨hs, hA⟩ := g_sta hE hc
  exact va_ldcS hc.1 hc.2.1 hc.2.2.2.2.2.1 (hs.2.2.1 i _ hi) hd (kk p e s m args below meth c H locs ls0 hc hP hD hS hl)
theorem g_getsC (hE : g_E E adK adV ta) {idx : Nat} (hw : Cond.fieldLink M.1.cls idx "java/lang/String" "COMPACT_STRINGS" "Z" ∈ gw) (hd : decode M.2.1 pc = .ok (.getstatic idx, 3)) (kk : G E M d mc ms A Q k n (pc + 3) ls (.int 1 :: st) ws) : G E M d mc ms A Q k n pc ls st ws := by
  intro p e s m args below meth c H locs ls0 hc hP hD hS hl
  obtain ⟨hs, hA⟩ := g_sta hE hc
  exact va_gets hc.1 hc.2.1 (hs.2.2.2.1.narrow hA) hS hc.2.2.2.2.2.1 (hc.2.2.2.2.2.2.1 _ (List.mem_cons_of_mem _ hw)) (fun _ h => h) hd (kk p e s m args below meth c H locs ls0 hc hP hD hS hl)
theorem g_getsQ (hE : g_E E adK adV ta) {idx : Nat} (hw : Cond.fieldLink M.1.cls idx "jdk/internal/util/Preconditions" "SIOOBE_FORMATTER" "Ljava/util/function/BiFunction;" ∈ gw) (hd : decode M.2.1 pc = .ok (.getstatic idx, 3)) (kk : ∀ v : Value, (v = .null ∨ ∃ t, v = .ref t) → G E M d mc ms A Q k n (pc + 3) ls (v :: st) ws) : G E M d mc ms A Q k n pc ls st ws := by
  intro p e s m args below meth c H locs ls0 hc hP hD hS hl
  obtain ⟨hs, hA⟩ := g_sta hE hc
  rcases hs.2.2.2.2.1.narrow hA with h | ⟨t, h⟩
  · exact va_gets hc.1 hc.2.1 h hS hc.2.2.2.2.2.1 (hc.2.2.2.2.2.2.1 _ (List.mem_cons_of_mem _ hw)) (fun _ h => h) hd (kk _ (Or.inl rfl) p e s m args below meth c H locs ls0 hc hP hD hS hl)
  · exact va_gets hc.1 hc.2.1 h hS hc.2.2.2.2.2.1 (hc.2.2.2.2.2.2.1 _ (List.mem_cons_of_mem _ hw)) (fun _ h => h) hd (kk _ (Or.inr ⟨t, rfl⟩) p e s m args below meth c H locs ls0 hc hP hD hS hl)
/-- the three static rows -/
def arN (j : Nat) : String := if j = 0 then "KIND_ABOVE" else if j = 1 then "LEAST_OF_PART" else "MOST_OF_PART"
def arF (j : Nat) : Nat → Int32 := if j = 0 then kaF else if j = 1 then lpF else mpF
def arL (j : Nat) : Nat := if j = 0 then 6 else 3
theorem g_arr {U : State} {H : Heap} {B : Nat} (h : g_Sta B adK adV ta U H) {j : Nat} (hj : j < 3) : va_Z "DogsOnLeads" (arN j) "[I" (.ref (ta j)) (A0 B) U H ∧ va_T .int (ta j) (arL j) (fun i => .int (arF j i)) (A0 B) U H := by
  match j, hj with
  | 0, _ => exact h.2.2.2.2.2.1
  | 1, _ => exact h.2.2.2.2.2.2.1
  | 2, _ => exact h.2.2.2.2.2.2.2
theorem g_getsA (hE : g_E E adK adV ta) (j : Nat) (hj : j < 3) {idx : Nat} (hw : Cond.fieldLink M.1.cls idx "DogsOnLeads" (arN j) "[I" ∈ gw) (hd : decode M.2.1 pc = .ok (.getstatic idx, 3)) (kk : G E M d mc ms A Q k n (pc + 3) ls (.ref (ta j) :: st) ws) : G E M d mc ms A Q k n pc ls st ws := by
  intro p e s m args below meth c H locs ls0 hc hP hD hS hl
  obtain ⟨hs, hA⟩ := g_sta hE hc
  exact va_gets hc.1 hc.2.1 ((g_arr hs hj).1.narrow hA) hS hc.2.2.2.2.2.1 (hc.2.2.2.2.2.2.1 _ (List.mem_cons_of_mem _ hw)) (fun _ h => h) hd (kk p e s m args below meth c H locs ls0 hc hP hD hS hl)
theorem g_ialdA (hE : g_E E adK adV ta) (j : Nat) (hj : j < 3) {i : Int32} (hd : decode M.2.1 pc = .ok (.iaload, 1)) (hi : 0 ≤ i.toInt ∧ i.toInt < arL j) (kk : G E M d mc ms A Q k n (pc + 1) ls (.int (arF j i.toInt.toNat) :: st) ws) : G E M d mc ms A Q k n pc ls (.int i :: .ref (ta j) :: st) ws := by
  intro p e s m args below meth c H locs ls0 hc hP hD hS hl
  obtain ⟨hs, hA⟩ := g_sta hE hc
  exact va_ti hc.1 hc.2.1 ((g_arr hs hj).2.narrow hA) hS (g_vin hi) rfl hd (kk p e s m args below meth c H locs ls0 hc hP hD hS hl)
theorem g_alenA (hE : g_E E adK adV ta) (j : Nat) (hj : j < 3) (hd : decode M.2.1 pc = .ok (.arraylength, 1)) (kk : G E M d mc ms A Q k n (pc + 1) ls (.int (nI (arL j)) :: st) ws) : G E M d mc ms A Q k n pc ls (.ref (ta j) :: st) ws := by
  intro p e s m args below meth c H locs ls0 hc hP hD hS hl
  obtain ⟨hs, hA⟩ := g_sta hE hc
  exact va_tlen hc.1 hc.2.1 ((g_arr hs hj).2.narrow hA) hS rfl hd (kk p e s m args below meth c H locs ls0 hc hP hD hS hl)
theorem g_getV (hE : g_E E adK adV ta) {i idx : Nat} (hi : i < 15) (hw : Cond.fieldLink M.1.cls idx "java/lang/String" "value" "[B" ∈ gw) (hd : decode M.2.1 pc = .ok (.getfield idx, 3)) (kk : G E M d mc ms A Q k n (pc + 3) ls (.ref (adV i) :: st) ws) : G E M d mc ms A Q k n pc ls (.ref (adK i) :: st) ws := by
  intro p e s m args below meth c H locs ls0 hc hP hD hS hl
  obtain ⟨hs, hA⟩ := g_sta hE hc
  exact vk_getf hc.1 hc.2.1 (((hs.2.1.narrow hA).1 i hi).2.2.1) hS hc.2.2.2.2.2.1 (hc.2.2.2.2.2.2.1 _ (List.mem_cons_of_mem _ hw)) (fun _ h => h) hd (kk p e s m args below meth c H locs ls0 hc hP hD hS hl)
theorem g_getC (hE : g_E E adK adV ta) {i idx : Nat} (hi : i < 15) (hw : Cond.fieldLink M.1.cls idx "java/lang/String" "coder" "B" ∈ gw) (hd : decode M.2.1 pc = .ok (.getfield idx, 3)) (kk : G E M d mc ms A Q k n (pc + 3) ls (.int 0 :: st) ws) : G E M d mc ms A Q k n pc ls (.ref (adK i) :: st) ws := by
  intro p e s m args below meth c H locs ls0 hc hP hD hS hl
  obtain ⟨hs, hA⟩ := g_sta hE hc
  exact vk_getf hc.1 hc.2.1 (((hs.2.1.narrow hA).1 i hi).2.1) hS hc.2.2.2.2.2.1 (hc.2.2.2.2.2.2.1 _ (List.mem_cons_of_mem _ hw)) (fun _ h => h) hd (kk p e s m args below meth c H locs ls0 hc hP hD hS hl)
def lnS (i : Nat) : Nat := lenS.getD i 0
def byS (i j : Nat) : Int32 := (bytS.getD i []).getD j 0
theorem g_alenV (hE : g_E E adK adV ta) {i : Nat} (hi : i < 15) (hd : decode M.2.1 pc = .ok (.arraylength, 1)) (kk : G E M d mc ms A Q k n (pc + 1) ls (.int (nI (lnS i)) :: st) ws) : G E M d mc ms A Q k n pc ls (.ref (adV i) :: st) ws := by
  intro p e s m args below meth c H locs ls0 hc hP hD hS hl
  obtain ⟨hs, hA⟩ := g_sta hE hc
  exact va_tlen hc.1 hc.2.1 (((hs.2.1.narrow hA).1 i hi).2.2.2) hS rfl hd (kk p e s m args below meth c H locs ls0 hc hP hD hS hl)
theorem g_baldV (hE : g_E E adK adV ta) {i : Nat} (hi : i < 15) {j : Int32} (hd : decode M.2.1 pc = .ok (.baload, 1)) (hj : 0 ≤ j.toInt ∧ j.toInt < lnS i) (kk : G E M d mc ms A Q k n (pc + 1) ls (.int (byS i j.toInt.toNat) :: st) ws) : G E M d mc ms A Q k n pc ls (.int j :: .ref (adV i) :: st) ws := by
  intro p e s m args below meth c H locs ls0 hc hP hD hS hl
  obtain ⟨hs, hA⟩ := g_sta hE hc
  exact va_tb hc.1 hc.2.1 (((hs.2.1.narrow hA).1 i hi).2.2.2) hS (g_vin hj) rfl hd (kk p e s m args below meth c H locs ls0 hc hP hD hS hl)
/-- a call on a String constant -/
theorem g_callVS {M' : GM} {np idx mc' ms' i : Nat} {As rest : List Value} {Q' : Option Value → va_W → Prop} (hE : g_E E adK adV ta) (hi : i < 15) (hd : decode M.2.1 pc = .ok (.invokevirtual idx, 3)) (hm : MV M.1.cls idx M' np) (hcl : M'.1.cls = "java/lang/String") (hn : As.length = np) (hr : (rest.map fun v => v.category).sum ≤ 8) (hC : g_C E M' d mc' ms' (.ref (adK i) :: As) ws Q') (hk : k + mc' ≤ mc) (hk2 : n + ms' ≤ ms)
    (kk : ∀ (v : Option Value) (w : va_W), Q' v w → G E M (d + 1) mc ms A Q (k + mc') (n + ms') (pc + 3) ls (v.toList ++ rest) w) : G E M (d + 1) mc ms A Q k n pc ls (As.reverse ++ .ref (adK i) :: rest) ws := by
  intro p e s m args below meth c H locs ls0 hc hP hD hS hl
  obtain ⟨hs, hA⟩ := g_sta hE hc
  have hrv := vk_recv (hs.2.1.narrow hA) hi hS
  rw [← hcl] at hrv
  exact g_back (b := .ref (adK i) :: As) hc hP hD hS hl kk (va_runV (Ts := g_wd M) (own := M.1.cls) (C := M'.1.cls) (As := As) (rest := rest) (b := adK i) ⟨hc.1, hc.2.1, hc.2.2.2.2.1, hc.2.2.2.2.2.1, hc.2.2.2.2.2.2.1⟩ (hC H.size) ⟨g_callB hc.2.2.2.2.2.2.1 hm.1 hm.2.1, hc.2.2.2.2.2.2.1 _ (List.mem_cons_of_mem _ hm.2.2.1), hc.2.2.2.2.2.2.1 _ (List.mem_cons_of_mem _ hm.2.2.2)⟩
    ⟨g_blind hc.2.2.2.2.2.2.2.2.2.2.2.2.2, hrv, fun U hU hW => ⟨rfl, g_pre hc hP hD hS hU hW⟩⟩ rfl hn hl.1 rfl (lv_room hr) hd ⟨hk, hk2⟩)
theorem g_VS0i {M' : GM} {idx i : Nat} {Q0 : Int32 → va_W → Prop} (hE : g_E E adK adV ta) (hi : i < 15) (hd : decode M.2.1 pc = .ok (.invokevirtual idx, 3)) (hm : MV M.1.cls idx M' 0) (hcl : M'.1.cls = "java/lang/String") (hr : Nat.ble (st.map fun v => v.category).sum 8 = true) (hk : k ≤ mc) (hk2 : n ≤ ms) (hC : g_Ci E M' d [.ref (adK i)] ws Q0) (kk : ∀ (r : Int32) (w : va_W), Q0 r w → G E M (d + 1) mc ms A Q k n (pc + 3) ls (.int r :: st) w) : G E M (d + 1) mc ms A Q k n pc ls (.ref (adK i) :: st) ws :=
  g_callVS (As := []) (rest := st) hE hi hd hm hcl rfl (Nat.le_of_ble_eq_true hr) hC hk hk2 (fun v w hq => by obtain ⟨r, rfl, hq⟩ := hq; exact kk r w hq)
theorem g_VS1i {M' : GM} {idx i : Nat} {v1 : Value} {Q0 : Int32 → va_W → Prop} (hE : g_E E adK adV ta) (hi : i < 15) (hd : decode M.2.1 pc = .ok (.invokevirtual idx, 3)) (hm : MV M.1.cls idx M' 1) (hcl : M'.1.cls = "java/lang/String") (hr : Nat.ble (st.map fun v => v.category).sum 8 = true) (hk : k ≤ mc) (hk2 : n ≤ ms) (hC : g_Ci E M' d [.ref (adK i), v1] ws Q0) (kk : ∀ (r : Int32) (w : va_W), Q0 r w → G E M (d + 1) mc ms A Q k n (pc + 3) ls (.int r :: st) w) : G E M (d + 1) mc ms A Q k n pc ls (v1 :: .ref (adK i) :: st) ws :=
  g_callVS (As := [v1]) (rest := st) hE hi hd hm hcl rfl (Nat.le_of_ble_eq_true hr) hC hk hk2 (fun v w hq => by obtain ⟨r, rfl, hq⟩ := hq; exact kk r w hq)
theorem g_VS2i {M' : GM} {idx i : Nat} {v1 v2 : Value} {Q0 : Int32 → va_W → Prop} (hE : g_E E adK adV ta) (hi : i < 15) (hd : decode M.2.1 pc = .ok (.invokevirtual idx, 3)) (hm : MV M.1.cls idx M' 2) (hcl : M'.1.cls = "java/lang/String") (hr : Nat.ble (st.map fun v => v.category).sum 8 = true) (hk : k ≤ mc) (hk2 : n ≤ ms) (hC : g_Ci E M' d [.ref (adK i), v1, v2] ws Q0) (kk : ∀ (r : Int32) (w : va_W), Q0 r w → G E M (d + 1) mc ms A Q k n (pc + 3) ls (.int r :: st) w) : G E M (d + 1) mc ms A Q k n pc ls (v2 :: v1 :: .ref (adK i) :: st) ws :=
  g_callVS (As := [v1, v2]) (rest := st) hE hi hd hm hcl rfl (Nat.le_of_ble_eq_true hr) hC hk hk2 (fun v w hq => by obtain ⟨r, rfl, hq⟩ := hq; exact kk r w hq)
theorem g_bret {v : Int32} (hr : M.2.2.2 = some .byte) (hv : narrow .byte (.int v) = .int v) (hd : decode M.2.1 pc = .ok (.ireturn, 1)) (hk : k ≤ mc) (hn : n ≤ ms) (hq : Q (some (.int v)) ws) : G E M d mc ms A Q k n pc ls [.int v] ws := by
  intro p e s m args below meth c H locs ls0 hc hP hD hS hl
  exact W.widen hk hn (W.zret hc.1 hc.2.1 (hc.2.2.1.trans hr) hv (fun t ht hW => ⟨⟨_, ws, rfl, hq, by rw [ht]; exact hP, hD⟩, hS.F ht⟩) hS.2.2 hd (hlocks := hc.2.2.2.1))
end G30
theorem fs_J0_38 : Cond.fieldLink RJ0 38 "java/lang/String" "COMPACT_STRINGS" "Z" ∈ gw := gw_at (i := 285) (by decide +kernel) rfl
theorem fs_J0_1053 : Cond.fieldLink RJ0 1053 "jdk/internal/util/Preconditions" "SIOOBE_FORMATTER" "Ljava/util/function/BiFunction;" ∈ gw := gw_at (i := 301) (by decide +kernel) rfl
theorem fs_J2_44 : Cond.fieldLink RJ2 44 "java/lang/StringUTF16" "$assertionsDisabled" "Z" ∈ gw := gw_at (i := 319) (by decide +kernel) rfl
theorem fs_J2_59 : Cond.fieldLink RJ2 59 "java/lang/StringUTF16" "HI_BYTE_SHIFT" "I" ∈ gw := gw_at (i := 321) (by decide +kernel) rfl
theorem fs_J2_63 : Cond.fieldLink RJ2 63 "java/lang/StringUTF16" "LO_BYTE_SHIFT" "I" ∈ gw := gw_at (i := 323) (by decide +kernel) rfl
theorem fs_X7_313 : Cond.fieldLink RX7 313 "DogsOnLeads" "LEAST_OF_PART" "[I" ∈ gw := gw_at (i := 608) (by decide +kernel) rfl
theorem fs_X7_316 : Cond.fieldLink RX7 316 "DogsOnLeads" "MOST_OF_PART" "[I" ∈ gw := gw_at (i := 610) (by decide +kernel) rfl
theorem fs_X7_300 : Cond.fieldLink RX7 300 "DogsOnLeads" "KIND_ABOVE" "[I" ∈ gw := gw_at (i := 934) (by decide +kernel) rfl
theorem fs_J0_9 : Cond.fieldLink RJ0 9 "java/lang/String" "value" "[B" ∈ gw := gw_at (i := 1435) (by decide +kernel) rfl
theorem fs_J0_15 : Cond.fieldLink RJ0 15 "java/lang/String" "coder" "B" ∈ gw := gw_at (i := 1436) (by decide +kernel) rfl
