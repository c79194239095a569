def FL (own : String) (idx ci kf : Nat) : Prop := ∃ r : vw_C, vwCl[ci]? = some r ∧ kf < r.2.2 ∧ Cond.fieldLink own idx (r.2.1 kf).1 (r.2.1 kf).2.1 (r.2.1 kf).2.2.1 ∈ gw
def FP (ci kf : Nat) (ty : FieldType) (fin : Bool) : Prop := ∃ r : vw_C, vwCl[ci]? = some r ∧ parseFieldDescriptor (r.2.1 kf).2.2.1 = some ty ∧ (r.2.1 kf).2.2.2 = fin ∧ (r.2.1 kf).1 = r.1
def FC (r : vw_C) (ty : Nat → FieldType) : Prop := (∀ k, k < r.2.2 → parseFieldDescriptor (r.2.1 k).2.2.1 = some (ty k)) ∧ (∀ a, a < r.2.2 → ∀ b, b < r.2.2 → a ≠ b → (r.2.1 a).2.1 ≠ (r.2.1 b).2.1) ∧ ∀ w ∈ u_ws r.1 r.2.1 r.2.2, w ∈ gw
theorem gu_0 : ∀ w ∈ u_ws RX0 TX0 6, w ∈ gw := by
  intro w hw
  have h : GoodIn lw_tbl (u_ws RX0 TX0 6) := goodIn_r _ [189, 191, 193, 195, 197, 199] (by decide +kernel) (by decide +kernel)
  have h1 : (u_ws RX0 TX0 6).all goodWord = true := by decide +kernel
  exact List.mem_filter.mpr ⟨(h w hw).1, List.all_eq_true.mp h1 w hw⟩
theorem gu_1 : ∀ w ∈ u_ws RX1 TX1 8, w ∈ gw := by
  intro w hw
  have h : GoodIn lw_tbl (u_ws RX1 TX1 8) := goodIn_r _ [156, 158, 160, 162, 164, 166, 168, 170] (by decide +kernel) (by decide +kernel)
  have h1 : (u_ws RX1 TX1 8).all goodWord = true := by decide +kernel
  exact List.mem_filter.mpr ⟨(h w hw).1, List.all_eq_true.mp h1 w hw⟩
theorem gu_2 : ∀ w ∈ u_ws RX2 TX2 7, w ∈ gw := by
  intro w hw
  have h : GoodIn lw_tbl (u_ws RX2 TX2 7) := goodIn_r _ [238, 240, 242, 244, 246, 248, 250] (by decide +kernel) (by decide +kernel)
  have h1 : (u_ws RX2 TX2 7).all goodWord = true := by decide +kernel
  exact List.mem_filter.mpr ⟨(h w hw).1, List.all_eq_true.mp h1 w hw⟩
theorem gu_3 : ∀ w ∈ u_ws RX3 TX3 6, w ∈ gw := by
  intro w hw
  have h : GoodIn lw_tbl (u_ws RX3 TX3 6) := goodIn_r _ [126, 128, 130, 132, 134, 136] (by decide +kernel) (by decide +kernel)
  have h1 : (u_ws RX3 TX3 6).all goodWord = true := by decide +kernel
  exact List.mem_filter.mpr ⟨(h w hw).1, List.all_eq_true.mp h1 w hw⟩
theorem gu_4 : ∀ w ∈ u_ws RX4 TX4 3, w ∈ gw := by
  intro w hw
  have h : GoodIn lw_tbl (u_ws RX4 TX4 3) := goodIn_r _ [269, 271, 273] (by decide +kernel) (by decide +kernel)
  have h1 : (u_ws RX4 TX4 3).all goodWord = true := by decide +kernel
  exact List.mem_filter.mpr ⟨(h w hw).1, List.all_eq_true.mp h1 w hw⟩
theorem gu_5 : ∀ w ∈ u_ws RX5 TX5 5, w ∈ gw := by
  intro w hw
  have h : GoodIn lw_tbl (u_ws RX5 TX5 5) := goodIn_r _ [219, 221, 223, 225, 227] (by decide +kernel) (by decide +kernel)
  have h1 : (u_ws RX5 TX5 5).all goodWord = true := by decide +kernel
  exact List.mem_filter.mpr ⟨(h w hw).1, List.all_eq_true.mp h1 w hw⟩
theorem gu_6 : ∀ w ∈ u_ws RX7 TX7 14, w ∈ gw := by
  intro w hw
  have h : GoodIn lw_tbl (u_ws RX7 TX7 14) := goodIn_r _ [504, 506, 508, 510, 512, 514, 516, 518, 520, 522, 524, 526, 528, 530] (by decide +kernel) (by decide +kernel)
  have h1 : (u_ws RX7 TX7 14).all goodWord = true := by decide +kernel
  exact List.mem_filter.mpr ⟨(h w hw).1, List.all_eq_true.mp h1 w hw⟩
theorem gu_7 : ∀ w ∈ u_ws RX8 TX8 56, w ∈ gw := by
  intro w hw
  have h : GoodIn lw_tbl (u_ws RX8 TX8 56) := goodIn_r _ [1001, 1003, 1005, 1007, 1009, 1011, 1013, 1015, 1017, 1019, 1021, 1023, 1025, 1027, 1029, 1031, 1033, 1035, 1037, 1039, 1041, 1043, 1045, 1047, 1049, 1051, 1053, 1055, 1057, 1059, 1061, 1063, 1065, 1067, 1069, 1071, 1073, 1075, 1077, 1079, 1081, 1083, 1085, 1087, 1089, 1091, 1093, 1095, 1097, 1099, 1101, 1103, 1105, 1107, 1109, 1111] (by decide +kernel) (by decide +kernel)
  have h1 : (u_ws RX8 TX8 56).all goodWord = true := by decide +kernel
  exact List.mem_filter.mpr ⟨(h w hw).1, List.all_eq_true.mp h1 w hw⟩
theorem g_cls : ∀ (ci : Nat) (r : vw_C), vwCl[ci]? = some r → ∃ ty, FC r ty := by
  intro ci r h
  match ci, h with
  | 0, h => cases h; exact ⟨tyX0, tyX0_ok, nmX0, gu_0⟩
  | 1, h => cases h; exact ⟨tyX1, tyX1_ok, nmX1, gu_1⟩
  | 2, h => cases h; exact ⟨tyX2, tyX2_ok, nmX2, gu_2⟩
  | 3, h => cases h; exact ⟨tyX3, tyX3_ok, nmX3, gu_3⟩
  | 4, h => cases h; exact ⟨tyX4, tyX4_ok, nmX4, gu_4⟩
  | 5, h => cases h; exact ⟨tyX5, tyX5_ok, nmX5, gu_5⟩
  | 6, h => cases h; exact ⟨tyX7, tyX7_ok, nmX7, gu_6⟩
  | 7, h => cases h; exact ⟨tyX8, tyX8_ok, nmX8, gu_7⟩
  | j + 8, h => simp [vwCl] at h
section GH
variable {E : GE} {M : GM} {d mc ms : Nat} {A : Nat → Prop} {Q : Option Value → va_W → Prop} {k n pc : Nat} {ls : List (Option Value)} {st : List Value} {ws : va_W}
theorem g_get {a idx ci kf : Nat} {fs : List Value} {v : Value} (hf : FL M.1.cls idx ci kf) (i : Nat) (he : ws[i]? = some (a, .inr (ci, fs))) (hv : fs[kf]? = some v) (hd : decode M.2.1 pc = .ok (.getfield idx, 3)) (kk : G E M d mc ms A Q k n (pc + 3) ls (v :: st) ws) : G E M d mc ms A Q k n pc ls (.ref a :: st) ws := by
  intro p e s m args below meth c H locs ls0 hc hP hD hS hl
  obtain ⟨⟨C, T, N⟩, h1, h2, h3⟩ := hf
  obtain ⟨ty, -, -, hin⟩ := g_cls ci _ h1
  exact va_get hc.1 hc.2.1 (Ts := g_wd M) hc.2.2.2.2.2.2.1 (fun w hw => List.mem_cons_of_mem _ (hin w hw)) hc.2.2.2.2.2.1 hc.2.2.2.2.2.2.2.1 hP i he h1 kf h2 (hc.2.2.2.2.2.2.1 _ (List.mem_cons_of_mem _ h3)) (fun _ h => h) hv hd (kk p e s m args below meth c H locs ls0 hc hP hD hS hl)
theorem g_put {a idx ci kf : Nat} {fs : List Value} {v : Value} {ty : FieldType} (hf : FL M.1.cls idx ci kf) (hp : FP ci kf ty false) (i : Nat) (he : ws[i]? = some (a, .inr (ci, fs))) (hn : narrow ty v = v) (hft : fits ty v = true) (hkl : kf < fs.length) (hd : decode M.2.1 pc = .ok (.putfield idx, 3)) (kk : G E M d mc ms A Q k n (pc + 3) ls st (ws.set i (a, .inr (ci, fs.set kf v)))) : G E M d mc ms A Q k n pc ls (v :: .ref a :: st) ws := by
  intro p e s m args below meth c H locs ls0 hc hP hD hS hl
  obtain ⟨⟨C, T, N⟩, h1, h2, h3⟩ := hf
  obtain ⟨r, h4, h5, h6, -⟩ := hp
  have hr : r = (C, T, N) := Option.some.inj (h4.symm.trans h1)
  subst hr
  obtain ⟨ty0, hty, hnm, hin⟩ := g_cls ci _ h1
  exact va_put hc.1 hc.2.1 (Ts := g_wd M) hc.2.2.2.2.2.2.1 (fun w hw => List.mem_cons_of_mem _ (hin w hw)) ty0 hty hnm hc.2.2.2.2.2.1 hc.2.2.2.2.2.2.2.1 hP hD hS i he h1 kf h2 (hc.2.2.2.2.2.2.1 _ (List.mem_cons_of_mem _ h3)) (fun _ h => h) h6 h5 hn hft hkl hd (fun H1 locs1 hP1 hD1 hS1 => kk p e s m args below meth c H1 locs1 ls0 hc hP1 hD1 hS1 hl)
theorem g_putF {a idx ci kf : Nat} {fs : List Value} {v : Value} {ty : FieldType} (hf : FL M.1.cls idx ci kf) (hp : FP ci kf ty true) (hi : M.1.name = "<init>") (hown : vwCl[ci]?.map (fun r => r.1) = some M.1.cls) (i : Nat) (he : ws[i]? = some (a, .inr (ci, fs))) (hn : narrow ty v = v) (hft : fits ty v = true) (hkl : kf < fs.length) (hd : decode M.2.1 pc = .ok (.putfield idx, 3)) (kk : G E M d mc ms A Q k n (pc + 3) ls st (ws.set i (a, .inr (ci, fs.set kf v)))) : G E M d mc ms A Q k n pc ls (v :: .ref a :: st) ws := by
  intro p e s m args below meth c H locs ls0 hc hP hD hS hl
  obtain ⟨⟨C, T, N⟩, h1, h2, h3⟩ := hf
  obtain ⟨r, h4, h5, h6, h7⟩ := hp
  have hr : r = (C, T, N) := Option.some.inj (h4.symm.trans h1)
  subst hr
  obtain ⟨ty0, hty, hnm, hin⟩ := g_cls ci _ h1
  rw [h1] at hown
  have hC : C = M.1.cls := Option.some.inj hown
  exact va_putF hc.1 hc.2.1 (Ts := g_wd M) hc.2.2.2.2.2.2.1 (fun w hw => List.mem_cons_of_mem _ (hin w hw)) ty0 hty hnm hc.2.2.2.2.2.1 hc.2.2.2.2.2.2.2.1 hP hD hS i he h1 kf h2 (hc.2.2.2.2.2.2.1 _ (List.mem_cons_of_mem _ h3)) (fun _ h => h) h6 (hc.2.2.2.2.2.2.2.2.2.2.2.2.1.trans hi) (h7.trans hC) h5 hn hft hkl hd (fun H1 locs1 hP1 hD1 hS1 => kk p e s m args below meth c H1 locs1 ls0 hc hP1 hD1 hS1 hl)
theorem g_vin {i : Int32} {m : Nat} (h : 0 ≤ i.toInt ∧ i.toInt < m) : vp_in i m := vp_in_iff.mpr h
theorem g_iaload {a m : Nat} {f : Nat → Int32} {i : Int32} (j : Nat) (he : ws[j]? = some (a, .inl (E.2.2.1 0, m, .inl f))) (hd : decode M.2.1 pc = .ok (.iaload, 1)) (hi : 0 ≤ i.toInt ∧ i.toInt < m) (kk : G E M d mc ms A Q k n (pc + 1) ls (.int (f i.toInt.toNat) :: st) ws) : G E M d mc ms A Q k n pc ls (.int i :: .ref a :: st) ws := by
  intro p e s m args below meth c H locs ls0 hc hP hD hS hl
  exact va_iald hc.1 hc.2.1 hc.2.2.2.2.2.2.2.1 hP j 0 he rfl (g_vin hi) hd (kk p e s m args below meth c H locs ls0 hc hP hD hS hl)
theorem g_iastore {a m : Nat} {f : Nat → Int32} {i x : Int32} (j : Nat) (he : ws[j]? = some (a, .inl (E.2.2.1 0, m, .inl f))) (hd : decode M.2.1 pc = .ok (.iastore, 1)) (hi : 0 ≤ i.toInt ∧ i.toInt < m) (kk : G E M d mc ms A Q k n (pc + 1) ls st (ws.set j (a, .inl (E.2.2.1 0, m, .inl (upd f i.toInt.toNat x))))) : G E M d mc ms A Q k n pc ls (.int x :: .int i :: .ref a :: st) ws := by
  intro p e s m args below meth c H locs ls0 hc hP hD hS hl
  exact va_iast hc.1 hc.2.1 hc.2.2.2.2.2.2.2.1 hP hD hS j 0 he rfl (g_vin hi) hd (fun H1 locs1 hP1 hD1 hS1 => kk p e s m args below meth c H1 locs1 ls0 hc hP1 hD1 hS1 hl)
theorem g_baload {a m : Nat} {f : Nat → Int32} {i : Int32} (j : Nat) (he : ws[j]? = some (a, .inl (E.2.2.1 1, m, .inl f))) (hd : decode M.2.1 pc = .ok (.baload, 1)) (hi : 0 ≤ i.toInt ∧ i.toInt < m) (kk : G E M d mc ms A Q k n (pc + 1) ls (.int (f i.toInt.toNat) :: st) ws) : G E M d mc ms A Q k n pc ls (.int i :: .ref a :: st) ws := by
  intro p e s m args below meth c H locs ls0 hc hP hD hS hl
  exact va_zald hc.1 hc.2.1 hc.2.2.2.2.2.2.2.1 hP j 1 he rfl (g_vin hi) hd (kk p e s m args below meth c H locs ls0 hc hP hD hS hl)
theorem g_aaload {a m : Nat} {f : Nat → Option Nat} {i : Int32} (c : Nat) (j : Nat) {S : String} (hS2 : (g_tys E)[c]? = some (E.2.2.1 c, .object S)) (he : ws[j]? = some (a, .inl (E.2.2.1 c, m, .inr (.inr (.inr (.inr f)))))) (hd : decode M.2.1 pc = .ok (.aaload, 1)) (hi : 0 ≤ i.toInt ∧ i.toInt < m) (kk : G E M d mc ms A Q k n (pc + 1) ls (va_rf (f i.toInt.toNat) :: st) ws) : G E M d mc ms A Q k n pc ls (.int i :: .ref a :: st) ws := by
  intro p e s m args below meth c1 H locs ls0 hc hP hD hS hl
  exact va_aldq hc.1 hc.2.1 hc.2.2.2.2.2.2.2.1 hP j c he hS2 (g_vin hi) hd (kk p e s m args below meth c1 H locs ls0 hc hP hD hS hl)
theorem g_alen {a : Nat} {x : vp_A} {c : Nat} {ty : FieldType} (hS2 : (g_tys E)[c]? = some (E.2.2.1 c, ty)) (j : Nat) (he : ws[j]? = some (a, .inl (E.2.2.1 c, x))) (hd : decode M.2.1 pc = .ok (.arraylength, 1)) (kk : G E M d mc ms A Q k n (pc + 1) ls (.int (nI x.1) :: st) ws) : G E M d mc ms A Q k n pc ls (.ref a :: st) ws := by
  intro p e s m args below meth c1 H locs ls0 hc hP hD hS hl
  exact va_alen hc.1 hc.2.1 hc.2.2.2.2.2.2.2.1 hP j c he hS2 rfl hd (kk p e s m args below meth c1 H locs ls0 hc hP hD hS hl)
theorem g_iret {v : Int32} (hr : M.2.2.2 = some .int) (hd : decode M.2.1 pc = .ok (.ireturn, 1)) (hk : k ≤ mc) (hn : n ≤ ms) (hq : Q (some (.int v)) ws) : G E M d mc ms A Q k n pc ls [.int v] ws := by
  intro p e s m args below meth c H locs ls0 hc hP hD hS hl
  exact W.widen hk hn (W.iret hc.1 hc.2.1 (hc.2.2.1.trans hr) (fun t ht hW => ⟨⟨_, ws, rfl, hq, by rw [ht]; exact hP, hD⟩, hS.F ht⟩) hS.2.2 hd (hlocks := hc.2.2.2.1))
theorem g_zret {v : Int32} (hr : M.2.2.2 = some .boolean) (hv : v = 0 ∨ v = 1) (hd : decode M.2.1 pc = .ok (.ireturn, 1)) (hk : k ≤ mc) (hn : n ≤ ms) (hq : Q (some (.int v)) ws) : G E M d mc ms A Q k n pc ls [.int v] ws := by
  intro p e s m args below meth c H locs ls0 hc hP hD hS hl
  exact W.widen hk hn (W.zret hc.1 hc.2.1 (hc.2.2.1.trans hr) (by rcases hv with h | h <;> subst h <;> rfl) (fun t ht hW => ⟨⟨_, ws, rfl, hq, by rw [ht]; exact hP, hD⟩, hS.F ht⟩) hS.2.2 hd (hlocks := hc.2.2.2.1))
theorem g_cret {v : Int32} (hr : M.2.2.2 = some .char) (hv : narrow .char (.int v) = .int v) (hd : decode M.2.1 pc = .ok (.ireturn, 1)) (hk : k ≤ mc) (hn : n ≤ ms) (hq : Q (some (.int v)) ws) : G E M d mc ms A Q k n pc ls [.int v] ws := by
  intro p e s m args below meth c H locs ls0 hc hP hD hS hl
  exact W.widen hk hn (W.zret hc.1 hc.2.1 (hc.2.2.1.trans hr) hv (fun t ht hW => ⟨⟨_, ws, rfl, hq, by rw [ht]; exact hP, hD⟩, hS.F ht⟩) hS.2.2 hd (hlocks := hc.2.2.2.1))
theorem g_lret {v : Int64} (hr : M.2.2.2 = some .long) (hd : decode M.2.1 pc = .ok (.lreturn, 1)) (hk : k ≤ mc) (hn : n ≤ ms) (hq : Q (some (.long v)) ws) : G E M d mc ms A Q k n pc ls [.long v] ws := by
  intro p e s m args below meth c H locs ls0 hc hP hD hS hl
  exact W.widen hk hn (W.lret hc.1 hc.2.1 (hc.2.2.1.trans hr) (fun t ht hW => ⟨⟨_, ws, rfl, hq, by rw [ht]; exact hP, hD⟩, hS.F ht⟩) hS.2.2 hd (hlocks := hc.2.2.2.1))
theorem g_vret (hr : M.2.2.2 = none) (hd : decode M.2.1 pc = .ok (.return_, 1)) (hk : k ≤ mc) (hn : n ≤ ms) (hq : Q none ws) : G E M d mc ms A Q k n pc ls [] ws := by
  intro p e s m args below meth c H locs ls0 hc hP hD hS hl
  exact W.widen hk hn (W.vret hc.1 hc.2.1 (hc.2.2.1.trans hr) (fun t ht hW => ⟨⟨_, ws, rfl, hq, by rw [ht]; exact hP, hD⟩, hS.F ht⟩) hS.2.2 hd (hlocks := hc.2.2.2.1))
theorem g_aret {v : Nat} {rt : FieldType} (hr : M.2.2.2 = some rt) (hrt : (∃ n, rt = .object n) ∨ ∃ t, rt = .array t) (hd : decode M.2.1 pc = .ok (.areturn, 1)) (hk : k ≤ mc) (hn : n ≤ ms) (hq : Q (some (.ref v)) ws) : G E M d mc ms A Q k n pc ls [.ref v] ws := by
  intro p e s m args below meth c H locs ls0 hc hP hD hS hl
  exact W.widen hk hn (W.aret hc.1 hc.2.1 (hc.2.2.1.trans hr) hrt (Or.inr ⟨_, rfl⟩) (fun t ht hW => ⟨⟨_, ws, rfl, hq, by rw [ht]; exact hP, hD⟩, hS.F ht⟩) hS.2.2 hd (hlocks := hc.2.2.2.1))
end GH
def MB (M' : GM) (np : Nat) : Prop := Cond.code M'.1 M'.2.1 M'.2.2.1 M'.2.2.2 ∈ gw ∧ Cond.initialized M'.1.cls ∈ gw ∧ M'.2.2.1 ≤ 29 ∧ (M'.1.cls ≠ "java/lang/invoke/MethodHandle" ∧ M'.1.cls ≠ "java/lang/invoke/VarHandle") ∧ (parseMethodDescriptor M'.1.desc).map (fun d => d.parameters.length) = some np
def MV (own : String) (idx : Nat) (M' : GM) (np : Nat) : Prop := MB M' np ∧ Cond.methodLink own idx M'.1 ∈ gw ∧ Cond.instanceMethod M'.1 ∈ gw ∧ Cond.selects M'.1.cls M'.1 M'.1 ∈ gw
def MS (own : String) (idx : Nat) (M' : GM) (np : Nat) : Prop := MB M' np ∧ Cond.methodLink own idx M'.1 ∈ gw ∧ Cond.static M'.1 ∈ gw
def MI (own : String) (idx : Nat) (M' : GM) (np : Nat) : Prop := MB M' np ∧ Cond.methodLink own idx M'.1 ∈ gw ∧ Cond.instanceMethod M'.1 ∈ gw ∧ M'.1.name = "<init>" ∧ M'.2.2.2 = none
/-- nest mates: the link's word isn't among the good ones, it comes with what is said of the statics -/
def MSN (E : GE) (own : String) (idx : Nat) (M' : GM) (np : Nat) : Prop := MB M' np ∧ Cond.static M'.1 ∈ gw ∧ ∃ host, ∀ (s : State) (H : Heap), E.2.2.2.2 s H → va_Nw (.methodLinkNest own idx M'.1 host) s
def MIN (E : GE) (own : String) (idx : Nat) (M' : GM) (np : Nat) : Prop := MB M' np ∧ Cond.instanceMethod M'.1 ∈ gw ∧ M'.1.name = "<init>" ∧ M'.2.2.2 = none ∧ ∃ host, ∀ (s : State) (H : Heap), E.2.2.2.2 s H → va_Nw (.methodLinkNest own idx M'.1 host) s
section GC
variable {E : GE} {M : GM} {d mc ms : Nat} {A : Nat → Prop} {Q : Option Value → va_W → Prop} {k n pc : Nat} {ls : List (Option Value)} {st : List Value} {ws : va_W}
theorem g_blind {sz : Nat} {av : List Value} (hst : g_St E) : FrameBlind (va_Pc av (g_Pr E sz ws)) := by
  intro a U g mk h
  obtain ⟨h0, h1, h2, h3, h4, h5, h6⟩ := h
  exact ⟨h0, h1, h2, h3, va_K.moved (u := U) (U := U.calling g mk a) (Vm.Alike.refl U.vm) h4, h5, hst U _ U.heap _ (State.WarmedH.refl U) (fun _ _ => rfl) h6⟩
theorem g_low {s : State} {H : Heap} {locs : List Loc} {B : Nat} (hS : va_S A s.heap H locs) (hB : B ≤ s.heap.size) (hA : ∀ q : Nat, A q → B ≤ q) : ∀ q : Nat, q < B → H[q]? = s.heap[q]? := fun q hq => hS.2.1 q (by omega) (fun h => by have := hA q h; omega)
theorem g_pre {s U : State} {H : Heap} {locs : List Loc} {p : Program} {m : MethodId} {args : Array Value} {meth : Method} {c : Code} (hc : g_ctx E M A p s m args meth c) (hP : va_P E.2.1 vwCl ws H) (hD : va_D A ws) (hS : va_S A s.heap H locs) (hU : U.heap = H) (hW : s.WarmedH U.vm) : g_Pr E H.size ws U := by
  obtain ⟨-, -, -, -, -, -, -, hK, hSt, hA, -, hB, -, hst⟩ := hc
  refine ⟨by rw [hU], Nat.le_trans hB hS.1, by rw [hU]; exact hP, va_K.moved hW.alike hK, hD.weaken (fun _ _ _ h => hA _ h), ?_⟩
  rw [hU]
  exact hst s U s.heap H hW (g_low hS hB hA) hSt
theorem g_back {mc' ms' : Nat} {b : List Value} {Q' : Option Value → va_W → Prop} {s : State} {H : Heap} {locs : List Loc} {p : Program} {e : Env} {m : MethodId} {args : Array Value} {meth : Method} {c : Code} {below : List Frame} {ls0 : Array Slot} {rest st0 : List Value}
    (hc : g_ctx E M A p s m args meth c) (hP : va_P E.2.1 vwCl ws H) (hD : va_D A ws) (hS : va_S A s.heap H locs) (hl : g_loc ls0 M.2.2.1 ls)
    (kk : ∀ (v : Option Value) (w : va_W), Q' v w → G E M (d + 1) mc ms A Q (k + mc') (n + ms') (pc + 3) ls (v.toList ++ rest) w)
    (hr : va_Run p E.1 e (g_rm (d + 1) mc ms) s m args below meth c H locs k n mc' ms' (F0 m pc ls0 st0) rest (g_Q E (va_A ws H.size) Q' b.toArray) (va_A ws H.size)) :
    W p E.1 e (g_rm (d + 1) mc ms) s m args below meth c H locs k n (MQ below (g_Q E A Q) args s mc ms A) (F0 m pc ls0 st0) := by
  have hAA : ∀ q : Nat, va_A ws H.size q → A q := by
    intro q h
    rcases h with ⟨j, x, h⟩ | h
    · exact hD.2 j _ h
    · exact hc.2.2.2.2.2.2.2.2.2.2.1 q (Nat.le_trans hS.1 h)
  intro T hT X
  obtain ⟨v, st₀, t, T', L, h0, X', hL, e1, e2, ⟨⟨v', w', hv, hq, hp, hd'⟩, hz, hk⟩, st⟩ := hr T hT X
  cases hv
  rw [h0] at hz hk
  obtain ⟨t2, a1, b1⟩ := kk v w' hq p e s m args below meth c T'.heap (locs ++ L) ls0 hc (by rw [e1]; exact hp) (hd'.weaken (fun _ _ _ h => hAA _ h))
    ⟨Nat.le_trans hS.1 (by rw [e1]; exact hz), fun q h1 h2 => by rw [e1, hk q (Nat.lt_of_lt_of_le h1 hS.1) (fun z => h2 (hAA q z))]; exact hS.2.1 q h1 h2, fun q hq => by
      rcases List.mem_append.mp hq with h | h
      · exact hS.2.2 q h
      · exact hAA _ (hL q h)⟩ hl T' rfl X'
  exact ⟨t2, st t2 a1, b1⟩
theorem g_callB {M' : GM} {np idx mc' ms' : Nat} {s : State} {args : Array Value} (hts : ∀ w ∈ g_wd M, w.before args s = true) (hm : MB M' np) (hlk : Cond.methodLink M.1.cls idx M'.1 ∈ gw) : CallB (g_rm (d + 1) mc ms) s args M.1.cls idx M'.1 M'.2.1 M'.2.2.1 M'.2.2.2 (g_wd M') (g_rm d mc' ms') mc' ms' np := by
  obtain ⟨h1, h2, h3, h4, h5⟩ := hm
  refine callB_of (Ts := g_wd M) (ws' := gw) np hts (fun w hw => ?_) rfl rfl rfl (hts _ (List.mem_cons_of_mem _ h2)) (hts _ (List.mem_cons_of_mem _ hlk)) ⟨h4.1, h4.2, h5⟩ ⟨Nat.le_refl _, ?_⟩
  · obtain ⟨q1, q2⟩ := g_wd_good h1 w hw
    exact ⟨List.mem_cons_of_mem _ q1, good_of_word q2⟩
  · show 8 + (M'.2.2.1 + 11) + 48 * d ≤ 48 * (d + 1)
    omega
theorem g_callV {M' : GM} {np idx mc' ms' b i ci : Nat} {fs As rest : List Value} {Q' : Option Value → va_W → Prop} (hd : decode M.2.1 pc = .ok (.invokevirtual idx, 3)) (hm : MV M.1.cls idx M' np) (he : ws[i]? = some (b, .inr (ci, fs))) (hci : vwCl[ci]?.map (fun r => r.1) = some M'.1.cls) (hn : As.length = np) (hr : (rest.map fun v => v.category).sum ≤ 8) (hC : g_C E M' d mc' ms' (.ref b :: As) ws Q') (hk : k + mc' ≤ mc) (hk2 : n + ms' ≤ ms)
    (kk : ∀ (v : Option Value) (w : va_W), Q' v w → G E M (d + 1) mc ms A Q (k + mc') (n + ms') (pc + 3) ls (v.toList ++ rest) w) : G E M (d + 1) mc ms A Q k n pc ls (As.reverse ++ .ref b :: rest) ws := by
  intro p e s m args below meth c H locs ls0 hc hP hD hS hl
  obtain ⟨r, hr1, hr2⟩ : ∃ r, vwCl[ci]? = some r ∧ r.1 = M'.1.cls := by
    cases hx : vwCl[ci]? with
    | none => rw [hx] at hci; cases hci
    | some r => rw [hx] at hci; exact ⟨r, rfl, Option.some.inj hci⟩
  have hrv := va_recv hc.2.2.2.2.2.2.2.1 hP hr1 he
  rw [hr2] at hrv
  exact g_back (b := .ref b :: As) hc hP hD hS hl kk (va_runV (Ts := g_wd M) (own := M.1.cls) (C := M'.1.cls) (As := As) (rest := rest) (b := b) ⟨hc.1, hc.2.1, hc.2.2.2.2.1, hc.2.2.2.2.2.1, hc.2.2.2.2.2.2.1⟩ (hC H.size) ⟨g_callB hc.2.2.2.2.2.2.1 hm.1 hm.2.1, hc.2.2.2.2.2.2.1 _ (List.mem_cons_of_mem _ hm.2.2.1), hc.2.2.2.2.2.2.1 _ (List.mem_cons_of_mem _ hm.2.2.2)⟩
    ⟨g_blind hc.2.2.2.2.2.2.2.2.2.2.2.2.2, hrv, fun U hU hW => ⟨rfl, g_pre hc hP hD hS hU hW⟩⟩ rfl hn hl.1 rfl (lv_room hr) hd ⟨hk, hk2⟩)
theorem g_callS {M' : GM} {np idx mc' ms' : Nat} {As rest : List Value} {Q' : Option Value → va_W → Prop} (hd : decode M.2.1 pc = .ok (.invokestatic idx, 3)) (hm : MS M.1.cls idx M' np) (hn : As.length = np) (hr : (rest.map fun v => v.category).sum ≤ 8) (hC : g_C E M' d mc' ms' As ws Q') (hk : k + mc' ≤ mc) (hk2 : n + ms' ≤ ms)
    (kk : ∀ (v : Option Value) (w : va_W), Q' v w → G E M (d + 1) mc ms A Q (k + mc') (n + ms') (pc + 3) ls (v.toList ++ rest) w) : G E M (d + 1) mc ms A Q k n pc ls (As.reverse ++ rest) ws := by
  intro p e s m args below meth c H locs ls0 hc hP hD hS hl
  exact g_back (b := As) hc hP hD hS hl kk (va_runS (Ts := g_wd M) (own := M.1.cls) (As := As) (rest := rest) ⟨hc.1, hc.2.1, hc.2.2.2.2.1, hc.2.2.2.2.2.1, hc.2.2.2.2.2.2.1⟩ (hC H.size) ⟨g_callB hc.2.2.2.2.2.2.1 hm.1 hm.2.1, hc.2.2.2.2.2.2.1 _ (List.mem_cons_of_mem _ hm.2.2)⟩
    ⟨g_blind hc.2.2.2.2.2.2.2.2.2.2.2.2.2, fun U hU hW => ⟨rfl, g_pre hc hP hD hS hU hW⟩⟩ rfl hn hl.1 rfl (lv_room hr) hd ⟨hk, hk2⟩)
theorem g_callCN {M' : GM} {np idx mc' ms' : Nat} {host : String} {s : State} {args : Array Value} (hts : ∀ w ∈ g_wd M, w.before args s = true) (hm : MB M' np) (hlk : va_Nw (.methodLinkNest M.1.cls idx M'.1 host) s) : va_CN (g_rm (d + 1) mc ms) s args M.1.cls idx M'.1 host M'.2.1 M'.2.2.1 M'.2.2.2 (g_wd M') (g_rm d mc' ms') mc' ms' np := by
  obtain ⟨h1, h2, h3, h4, h5⟩ := hm
  refine va_cnB (Ts := g_wd M) (ws' := gw) np hts (fun w hw => ?_) rfl rfl rfl hlk (hts _ (List.mem_cons_of_mem _ h2)) ⟨h4.1, h4.2, h5⟩ ⟨Nat.le_refl _, ?_⟩
  · obtain ⟨q1, q2⟩ := g_wd_good h1 w hw
    exact ⟨List.mem_cons_of_mem _ q1, good_of_word q2⟩
  · show 8 + (M'.2.2.1 + 11) + 48 * d ≤ 48 * (d + 1)
    omega
theorem g_callSN {M' : GM} {np idx mc' ms' : Nat} {As rest : List Value} {Q' : Option Value → va_W → Prop} (hd : decode M.2.1 pc = .ok (.invokestatic idx, 3)) (hm : MSN E M.1.cls idx M' np) (hn : As.length = np) (hr : (rest.map fun v => v.category).sum ≤ 8) (hC : g_C E M' d mc' ms' As ws Q') (hk : k + mc' ≤ mc) (hk2 : n + ms' ≤ ms)
    (kk : ∀ (v : Option Value) (w : va_W), Q' v w → G E M (d + 1) mc ms A Q (k + mc') (n + ms') (pc + 3) ls (v.toList ++ rest) w) : G E M (d + 1) mc ms A Q k n pc ls (As.reverse ++ rest) ws := by
  intro p e s m args below meth c H locs ls0 hc hP hD hS hl
  obtain ⟨hb, hs, host, hN⟩ := hm
  exact g_back (b := As) hc hP hD hS hl kk (va_runSN (Ts := g_wd M) (own := M.1.cls) (host := host) (As := As) (rest := rest) ⟨hc.1, hc.2.1, hc.2.2.2.2.1, hc.2.2.2.2.2.1, hc.2.2.2.2.2.2.1⟩ (hC H.size) ⟨g_callCN hc.2.2.2.2.2.2.1 hb (hN s s.heap hc.2.2.2.2.2.2.2.2.1), hc.2.2.2.2.2.2.1 _ (List.mem_cons_of_mem _ hs), trivial⟩
    ⟨g_blind hc.2.2.2.2.2.2.2.2.2.2.2.2.2, fun U hU hW => ⟨rfl, g_pre hc hP hD hS hU hW⟩⟩ rfl hn hl.1 rfl (lv_room hr) hd ⟨hk, hk2⟩)
end GC
/-- the frame rule: a callee's cells ahead, the rest behind, which stays -/
theorem g_frame {E : GE} {M : GM} {d mc ms : Nat} {av : List Value} {X wc Y : va_W} {Q : Option Value → va_W → Prop} (h : g_C E M d mc ms av wc Q) : g_C E M d mc ms av (X ++ (wc ++ Y)) (fun v w => ∃ w1, Q v w1 ∧ w = X ++ (w1 ++ Y)) := by
  intro sz
  have hin : ∀ (j : Nat) (q : Nat × va_E), wc[j]? = some q → (X ++ (wc ++ Y))[X.length + j]? = some q := by
    intro j q hj
    have hlt := (List.getElem?_eq_some_iff.mp hj).1
    rw [List.getElem?_append_right (by omega), show X.length + j - X.length = j by omega, List.getElem?_append_left hlt]
    exact hj
  have hsub : ∀ q : Nat, va_A wc sz q → va_A (X ++ (wc ++ Y)) sz q := by
    intro q hq
    rcases hq with ⟨j, x, hj⟩ | hq
    · exact Or.inl ⟨X.length + j, x, hin j _ hj⟩
    · exact Or.inr hq
  refine MetFree.mono (h sz) ?_ (fun _ _ _ _ _ h => h) ?_
  · intro a s hp
    obtain ⟨h0, h1, h2, h3, h4, h5, h6⟩ := hp
    refine ⟨h0, h1, h2, fun j q hj => h3 _ q (hin j q hj), h4, ⟨fun i j x y hi hj hxy => ?_, fun j q hj => h5.2 _ q (hin j q hj)⟩, h6⟩
    have := h5.1 _ _ x y (hin i x hi) (hin j y hj) hxy
    omega
  · intro a s o t hp hq
    obtain ⟨⟨⟨⟨v, w1, hv, hQ, hPw, hDw⟩, hz, hk⟩, L, hF, hL⟩⟩ := And.intro hq trivial
    obtain ⟨h0, hs, h2, h3, h4, h5, h6⟩ := hp
    have apart : ∀ (j : Nat) (q : Nat × va_E), (X ++ (wc ++ Y))[j]? = some q → (j < X.length ∨ X.length + wc.length ≤ j) → q.1 < s.heap.size ∧ ¬ va_A wc sz q.1 := by
      intro j q hj hjj
      have hl := (h3 j q hj).lt
      refine ⟨hl, fun hA => ?_⟩
      rcases hA with ⟨i, x, hi⟩ | hA
      · have := h5.1 _ _ q (q.1, x) hj (hin i _ hi) rfl
        have hlt := (List.getElem?_eq_some_iff.mp hi).1
        omega
      · omega
    have eX : ∀ (j : Nat) (q : Nat × va_E), X[j]? = some q → (X ++ (wc ++ Y))[j]? = some q ∧ j < X.length := by
      intro j q hj
      have hlt := (List.getElem?_eq_some_iff.mp hj).1
      exact ⟨by rw [List.getElem?_append_left hlt]; exact hj, hlt⟩
    have eY : ∀ (j : Nat) (q : Nat × va_E), Y[j]? = some q → (X ++ (wc ++ Y))[X.length + (wc.length + j)]? = some q := by
      intro j q hj
      rw [List.getElem?_append_right (by omega), List.getElem?_append_right (by omega), show X.length + (wc.length + j) - X.length - wc.length = j by omega]
      exact hj
    refine ⟨⟨⟨v, X ++ (w1 ++ Y), hv, ⟨w1, hQ, rfl⟩, ?_, ?_⟩, hz, fun q h7 h8 => hk q h7 (fun z => h8 (hsub q z))⟩, L, hF, fun q hq => hsub _ (hL q hq)⟩
    · refine va_P.app (fun j q hj => ?_) (va_P.app hPw (fun j q hj => ?_))
      · obtain ⟨e1, e2⟩ := eX j q hj
        obtain ⟨g1, g2⟩ := apart j q e1 (Or.inl e2)
        exact (h3 j q e1).kept (hk q.1 g1 g2)
      · have e1 := eY j q hj
        obtain ⟨g1, g2⟩ := apart _ q e1 (Or.inr (by omega))
        exact (h3 _ q e1).kept (hk q.1 g1 g2)
    · have hDX : va_D (va_A (X ++ (wc ++ Y)) sz) X := ⟨fun i j x y hi hj hxy => h5.1 i j x y (eX i x hi).1 (eX j y hj).1 hxy, fun j q hj => va_A.in (eX j q hj).1⟩
      have hDY : va_D (va_A (X ++ (wc ++ Y)) sz) Y := ⟨fun i j x y hi hj hxy => by have := h5.1 _ _ x y (eY i x hi) (eY j y hj) hxy; omega, fun j q hj => va_A.in (eY j q hj)⟩
      have hD1 : va_D (va_A (X ++ (wc ++ Y)) sz) w1 := hDw.weaken (fun _ _ _ h => hsub _ h)
      refine hDX.app (hD1.app hDY ?_) ?_
      · intro i j x y hx hy hxy
        have e1 := eY j y hy
        exact (apart _ y e1 (Or.inr (by omega))).2 (by rw [← hxy]; exact hDw.2 i x hx)
      · intro i j x y hx hy hxy
        obtain ⟨e1, e2⟩ := eX i x hx
        obtain ⟨g1, g2⟩ := apart i x e1 (Or.inl e2)
        by_cases hj : j < w1.length
        · rw [List.getElem?_append_left hj] at hy
          exact g2 (by rw [hxy]; exact hDw.2 j y hy)
        · rw [List.getElem?_append_right (by omega)] at hy
          have e3 := eY _ y hy
          have := h5.1 _ _ x y e1 e3 hxy
          omega
/-- a weaker end -/
theorem g_post {E : GE} {M : GM} {d mc ms : Nat} {av : List Value} {ws : va_W} {Q Q' : Option Value → va_W → Prop} (h : g_C E M d mc ms av ws Q) (hq : ∀ v w, Q v w → Q' v w) : g_C E M d mc ms av ws Q' := by
  intro sz
  refine MetFree.mono (h sz) (fun _ _ h => h) (fun _ _ _ _ _ h => h) ?_
  intro a s o t hp hqq
  obtain ⟨⟨⟨v, w1, hv, hQ, r⟩, hz⟩, hL⟩ := hqq
  exact ⟨⟨⟨v, w1, hv, hq v w1 hQ, r⟩, hz⟩, hL⟩
