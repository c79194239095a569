/-! the class's constructor: its parts -/
section S9q0
variable {E : GE} {M : GM} {d mc ms : Nat} {A : Nat → Prop} {Q : Option Value → va_W → Prop} {k n pc q : Nat} {ls : List (Option Value)} {fs : List Value} {arr : va_W}
set_option maxHeartbeats 2000000 in
theorem di_o {ci kf mc' ms' i1 i2 i3 : Nat} {M' : GM} {r : vw_C} {nw : List Value} {ty : FieldType} {P : Nat → va_W → Prop} (hr : vwCl[ci]? = some r) (tyf : Nat → FieldType) (hty : ∀ j, j < r.2.2 → parseFieldDescriptor (r.2.1 j).2.2.1 = some (tyf j)) (hin : ∀ w ∈ u_ws r.1 r.2.1 r.2.2, w ∈ gw) (hcl : Cond.classLink M.1.cls i1 r.1 ∈ gw) (hit : Cond.instantiable r.1 r.2.2 ∈ gw) (hini : Cond.initialized r.1 ∈ gw) (hfs : ∀ j, j < r.2.2 → defaultValue (tyf j) = vp_V nw j) (d1 : decode M.2.1 pc = .ok (.new i1, 3)) (d2 : decode M.2.1 (pc + 3) = .ok (.dup, 1)) (d3 : decode M.2.1 (pc + 4) = .ok (.invokespecial i2, 3)) (hm : MIN E M.1.cls i2 M' 0) (d4 : decode M.2.1 (pc + 7) = .ok (.putfield i3, 3)) (hf : FL M.1.cls i3 6 kf) (hp : FP 6 kf ty true) (hM : M.1.name = "<init>") (hC : vwCl[6]?.map (fun r => r.1) = some M.1.cls) (hn : ∀ x : Nat, narrow ty (.ref x) = .ref x) (hft : ∀ x : Nat, fits ty (.ref x) = true) (hl : fs.length = 14) (hkf : kf < 14) (hK : ∀ q' : Nat, g_C E M' d mc' ms' [.ref q'] [(q', .inr (ci, nw))] (fun v w => v = none ∧ P q' w)) (hk : Nat.ble (k + 1 + mc') mc = true) (hk2 : Nat.ble (n + r.2.2 + ms') ms = true)
    (kk : ∀ (q' : Nat) (w1 : va_W), P q' w1 → (fs.set kf (.ref q')).length = 14 → G E M (d + 1) mc ms A Q (k + 1 + mc') (n + r.2.2 + ms') (pc + 10) ls [] ((q, .inr (6, fs.set kf (.ref q'))) :: (arr ++ w1))) : G E M (d + 1) mc ms A Q k n pc ls [.ref q] ((q, .inr (6, fs)) :: arr) := by
  have hk' := Nat.le_of_ble_eq_true hk
  have hk2' := Nat.le_of_ble_eq_true hk2
  refine g_new hr tyf hty hin hcl hit hini hfs d1 (by omega) (by omega) (fun q' => ?_)
  refine g_dup d2 rfl ?_
  refine g_callIN d3 hm (Nat.le_of_ble_eq_true rfl) (g_frame (X := (q, .inr (6, fs)) :: arr) (Y := []) (hK q')) hk' hk2' (fun v w hq => ?_)
  obtain ⟨w1, ⟨rfl, hP⟩, rfl⟩ := hq
  rw [List.append_nil]
  exact g_putF hf hp hM hC 0 rfl (hn _) (hft _) (by omega) d4 (kk q' w1 hP (by rw [List.length_set]; exact hl))
set_option maxHeartbeats 1000000 in
theorem di_i {N idx kf : Nat} {x : Int32} (hf : FL M.1.cls idx 6 kf) (hp : FP 6 kf (.array .int) true) (hM : M.1.name = "<init>") (hC : vwCl[6]?.map (fun r => r.1) = some M.1.cls) (hx : x.toInt = N) (hN : N ≤ 1000) (hl : fs.length = 14) (hkf : kf < 14) (hd : decode M.2.1 pc = .ok (.newarray .int, 2)) (hd2 : decode M.2.1 (pc + 2) = .ok (.putfield idx, 3)) (hk : Nat.ble (k + 1) mc = true) (hk2 : Nat.ble (n + N) ms = true) (kk : ∀ q' : Nat, (fs.set kf (.ref q')).length = 14 → G E M d mc ms A Q (k + 1) (n + N) (pc + 5) ls [] ((q, .inr (6, fs.set kf (.ref q'))) :: (arr ++ [(q', ia E N (fun _ => 0))]))) : G E M d mc ms A Q k n pc ls [.int x, .ref q] ((q, .inr (6, fs)) :: arr) :=
  g_newi hx hN hd (Nat.le_of_ble_eq_true hk) (Nat.le_of_ble_eq_true hk2) (fun q' => g_putF hf hp hM hC 0 rfl rfl rfl (by omega) hd2 (kk q' (by rw [List.length_set]; exact hl)))
set_option maxHeartbeats 1000000 in
theorem g_newq2 {N idx cn : Nat} {st : List Value} {ws : va_W} {x : Int32} {C : String} (hov : ∀ (U : State) (H : Heap), E.2.2.2.2 U H → va_AO C U) (hty : (g_tys E)[cn]? = some (E.2.2.1 cn, .object C)) (hcl : Cond.classLink M.1.cls idx C ∈ gw) (hx : x.toInt = N) (hN : N ≤ 1000) (hd : decode M.2.1 pc = .ok (.anewarray idx, 3)) (hk : k + 1 ≤ mc) (hk2 : n + N ≤ ms) (kk : ∀ q : Nat, G E M d mc ms A Q (k + 1) (n + N) (pc + 3) ls (.ref q :: st) (ws ++ [(q, .inl (E.2.2.1 cn, N, .inr (.inr (.inr (.inr (fun _ => none))))))])) : G E M d mc ms A Q k n pc ls (.int x :: st) ws := by
  intro p e s m args below meth c H locs ls0 hc hP hD hS hl
  have hK := hc.2.2.2.2.2.2.2.1
  have hts : ∀ {w : Cond}, w ∈ gw → w.before args s = true := fun h1 => hc.2.2.2.2.2.2.1 _ (List.mem_cons_of_mem _ h1)
  refine va_newq hc.1 hc.2.1 hc.2.2.2.2.2.1 (hts hcl) (hov _ _ hc.2.2.2.2.2.2.2.2.1) hK hP hD hS hc.2.2.2.2.2.2.2.2.2.2.1 (N' := N) (nlt0 hx) (by show x.toInt.toNat = N; omega) (by omega) hk hk2 hd (fun q cA H1 hK1 hP1 hD1 hS1 => ?_)
  obtain ⟨-, -, -, -, -, e0⟩ := (hK.2 cn _ hty).2
  obtain ⟨-, -, -, -, -, e1⟩ := (hK1.2 4 _ rfl).2
  have e2 : cA = E.2.2.1 cn := Option.some.inj (e1.symm.trans e0)
  subst e2
  exact kk q p e s m args below meth c H1 locs ls0 hc hP1 hD1 hS1 hl
/-- a launch of which less is asked -/
theorem g_weak {st : List Value} {ws : va_W} {S' : State → Heap → Prop} (hst : g_St E) (hS0 : ∀ U H, S' U H → E.2.2.2.2 U H) (kk : G E M d mc ms A Q k n pc ls st ws) : G (E.1, E.2.1, E.2.2.1, E.2.2.2.1, S') M d mc ms A Q k n pc ls st ws := by
  intro p e s m args below meth c H locs ls0 hc hP hD hS hl
  obtain ⟨h1, h2, h3, h4, h5, h6, h7, h8, h9, h10, h11, h12, h13, -⟩ := hc
  exact kk p e s m args below meth c H locs ls0 ⟨h1, h2, h3, h4, h5, h6, h7, h8, hS0 _ _ h9, h10, h11, h12, h13, hst⟩ hP hD hS hl
set_option maxHeartbeats 1000000 in
theorem di_q {N idx idx2 kf cn : Nat} {C : String} {x : Int32} (hf : FL M.1.cls idx2 6 kf) (hp : FP 6 kf (.array (.object C)) true) (hM : M.1.name = "<init>") (hC : vwCl[6]?.map (fun r => r.1) = some M.1.cls) (hov : ∀ (U : State) (H : Heap), E.2.2.2.2 U H → va_AO C U) (hty : (g_tys E)[cn]? = some (E.2.2.1 cn, .object C)) (hcl : Cond.classLink M.1.cls idx C ∈ gw) (hx : x.toInt = N) (hN : N ≤ 1000) (hl : fs.length = 14) (hkf : kf < 14) (hd : decode M.2.1 pc = .ok (.anewarray idx, 3)) (hd2 : decode M.2.1 (pc + 3) = .ok (.putfield idx2, 3)) (hk : Nat.ble (k + 1) mc = true) (hk2 : Nat.ble (n + N) ms = true) (kk : ∀ q' : Nat, (fs.set kf (.ref q')).length = 14 → G E M d mc ms A Q (k + 1) (n + N) (pc + 6) ls [] ((q, .inr (6, fs.set kf (.ref q'))) :: (arr ++ [(q', .inl (E.2.2.1 cn, N, .inr (.inr (.inr (.inr (fun _ => none))))))]))) : G E M d mc ms A Q k n pc ls [.int x, .ref q] ((q, .inr (6, fs)) :: arr) :=
  g_newq2 hov hty hcl hx hN hd (Nat.le_of_ble_eq_true hk) (Nat.le_of_ble_eq_true hk2) (fun q' => g_putF hf hp hM hC 0 rfl rfl rfl (by omega) hd2 (kk q' (by rw [List.length_set]; exact hl)))
set_option maxHeartbeats 1000000 in
theorem di_p {idx kf : Nat} {ty : FieldType} {x : Int32} (hf : FL M.1.cls idx 6 kf) (hp : FP 6 kf ty false) (hn : narrow ty (.int x) = .int x) (hft : fits ty (.int x) = true) (hl : fs.length = 14) (hkf : kf < 14) (hd : decode M.2.1 pc = .ok (.putfield idx, 3)) (kk : (fs.set kf (.int x)).length = 14 → G E M d mc ms A Q k n (pc + 3) ls [] ((q, .inr (6, fs.set kf (.int x))) :: arr)) : G E M d mc ms A Q k n pc ls [.int x, .ref q] ((q, .inr (6, fs)) :: arr) :=
  g_put hf hp 0 rfl hn hft (by omega) hd (kk (by rw [List.length_set]; exact hl))
end S9q0
theorem pm_of {B : Nat → va_W} {is js : List Nat} (h : is.isPerm js = true) : List.Perm (bkF B is) (bkF B js) := by
  rw [bkF_flat, bkF_flat]
  exact (List.isPerm_iff.mp h).flatMap_right B
def di_B (p1 p2 r3 r4 o5 d6 : va_W) (c cT cN cS cO cP cW : Nat × va_E) : Nat → va_W
  | 0 => [c]
  | 1 => p1
  | 2 => p2
  | 3 => r3
  | 4 => r4
  | 5 => o5
  | 6 => d6
  | 7 => [cT]
  | 8 => [cN]
  | 9 => [cS]
  | 10 => [cO]
  | 11 => [cP]
  | _ => [cW]
theorem di_pm (p1 p2 r3 r4 o5 d6 : va_W) (c cT cN cS cO cP cW : Nat × va_E) : List.Perm (c :: cT :: cS :: (p1 ++ (p2 ++ (r3 ++ (r4 ++ (o5 ++ (d6 ++ [cN, cO, cP, cW]))))))) (c :: (((((((((((([] ++ p1) ++ p2) ++ r3) ++ r4) ++ o5) ++ d6) ++ [cT]) ++ [cN]) ++ [cS]) ++ [cO]) ++ [cP]) ++ [cW])) := by
  have h := pm_of (B := di_B p1 p2 r3 r4 o5 d6 c cT cN cS cO cP cW) (is := [0, 7, 9, 1, 2, 3, 4, 5, 6, 8, 10, 11, 12]) (js := [0, 1, 2, 3, 4, 5, 6, 7, 8, 9, 10, 11, 12]) (by decide)
  simp only [bkF, di_B] at h
  simpa only [List.append_assoc, List.cons_append, List.nil_append] using h
section S9q
variable {E : GE} {d q : Nat}
set_option maxRecDepth 40000 in
set_option maxHeartbeats 4000000 in
theorem i_dol0 (hN : g_N E) (hAO : ∀ (U : State) (H : Heap), E.2.2.2.2 U H → va_AO "DogsOnLeads$Text" U ∧ va_AO "DogsOnLeads$Sheet" U) {A : Nat → Prop} {Q : Option Value → va_W → Prop} (kk : ∀ (a1 a2 a3 a4 a5 a6 : Nat → Nat) (qT qN qS qO qP qW : Nat), G E mX7_init (d + 61) 85 3837 A Q 53 1697 130 [some (.ref q), some (.int 0)] [] ((q, .inr (6, [.ref (a1 0), .ref (a2 0), .int 0, .ref (a3 0), .ref (a4 0), .ref (a5 0), .ref (a6 0), .ref qT, .int 0, .ref qN, .ref qS, .ref qO, .ref qP, .ref qW])) :: (qT, .inl (E.2.2.1 3, 6, .inr (.inr (.inr (.inr (fun _ => none)))))) :: (qS, .inl (E.2.2.1 2, 4, .inr (.inr (.inr (.inr (fun _ => none)))))) :: ((packW E a1 0 z0f z0f z0f z0f z0f 0 0 ++ rowW E a1 6 z0f z0f z0f z0f z0f 0) ++ ((packW E a2 0 z0f z0f z0f z0f z0f 0 0 ++ rowW E a2 6 z0f z0f z0f z0f z0f 0) ++ (rowW E a3 0 z0f z0f z0f z0f z0f 0 ++ (rowW E a4 0 z0f z0f z0f z0f z0f 0 ++ (ordW E a5 0 z0f z0f z0f z0f 0 0 ++ ((rdrW E a6 0 z0f 0 0 22 0 0 ++ txtW E a6 2 z0f z0f z0f 0 0) ++ [(qN, ia E 6 (fun _ => 0)), (qO, ia E 6 (fun _ => 0)), (qP, ia E 4 (fun _ => 0)), (qW, ia E 36 (fun _ => 0))])))))))) : G E mX7_init (d + 61) 85 3837 A Q 0 0 0 [some (.ref q), none] [] [(q, .inr (6, nwX7))] := by
  refine g_aload0 dX7_init_0 (g_obj (gw_at (i := 99) (by decide +kernel) rfl) dX7_init_1 ?_)
  have l0 : nwX7.length = 14 := rfl
  refine g_aload0 dX7_init_4 (di_o (r := (RX1, TX1, 8)) (nw := nwX1) (mc' := 11) (ms' := 236) rfl tyX1 tyX1_ok gu_1 (gw_at (i := 102) (by decide +kernel) rfl) (gw_at (i := 103) (by decide +kernel) rfl) (gw_at (i := 78) (by decide +kernel) rfl) nwX1_ok dX7_init_5 dX7_init_8 dX7_init_9 (mn_X7_9 hN) dX7_init_12 fl_X7_10 fp_6_0 rfl rfl (fun _ => rfl) (fun _ => rfl) l0 (by decide) (fun q' => i_pack (d := d + 58) hN) rfl rfl (fun q1 w1 h1 l1 => ?_))
  obtain ⟨a1, rfl, rfl⟩ := h1
  refine g_aload0 dX7_init_15 (di_o (r := (RX1, TX1, 8)) (nw := nwX1) (mc' := 11) (ms' := 236) rfl tyX1 tyX1_ok gu_1 (gw_at (i := 102) (by decide +kernel) rfl) (gw_at (i := 103) (by decide +kernel) rfl) (gw_at (i := 78) (by decide +kernel) rfl) nwX1_ok dX7_init_16 dX7_init_19 dX7_init_20 (mn_X7_9 hN) dX7_init_23 fl_X7_16 fp_6_1 rfl rfl (fun _ => rfl) (fun _ => rfl) l1 (by decide) (fun q' => i_pack (d := d + 58) hN) rfl rfl (fun q2 w2 h2 l2 => ?_))
  obtain ⟨a2, rfl, rfl⟩ := h2
  refine g_aload0 dX7_init_26 (g_iconst ki_0 dX7_init_27 (di_p fl_X7_19 fp_6_2 rfl rfl l2 (by decide) dX7_init_28 (fun l3 => ?_)))
  refine g_aload0 dX7_init_31 (di_o (r := (RX3, TX3, 6)) (nw := nwX3) (mc' := 5) (ms' := 200) rfl tyX3 tyX3_ok gu_3 (gw_at (i := 173) (by decide +kernel) rfl) (gw_at (i := 109) (by decide +kernel) rfl) (gw_at (i := 79) (by decide +kernel) rfl) nwX3_ok dX7_init_32 dX7_init_35 dX7_init_36 (mn_X7_25 hN) dX7_init_39 fl_X7_26 fp_6_3 rfl rfl (fun _ => rfl) (fun _ => rfl) l3 (by decide) (fun q' => i_row (d := d + 59) hN) rfl rfl (fun q4 w4 h4 l4 => ?_))
  obtain ⟨a3, rfl, rfl⟩ := h4
  refine g_aload0 dX7_init_42 (di_o (r := (RX3, TX3, 6)) (nw := nwX3) (mc' := 5) (ms' := 200) rfl tyX3 tyX3_ok gu_3 (gw_at (i := 173) (by decide +kernel) rfl) (gw_at (i := 109) (by decide +kernel) rfl) (gw_at (i := 79) (by decide +kernel) rfl) nwX3_ok dX7_init_43 dX7_init_46 dX7_init_47 (mn_X7_25 hN) dX7_init_50 fl_X7_30 fp_6_4 rfl rfl (fun _ => rfl) (fun _ => rfl) l4 (by decide) (fun q' => i_row (d := d + 59) hN) rfl rfl (fun q5 w5 h5 l5 => ?_))
  obtain ⟨a4, rfl, rfl⟩ := h5
  refine g_aload0 dX7_init_53 (di_o (r := (RX0, TX0, 6)) (nw := nwX0) (mc' := 4) (ms' := 234) rfl tyX0 tyX0_ok gu_0 (gw_at (i := 175) (by decide +kernel) rfl) (gw_at (i := 176) (by decide +kernel) rfl) (gw_at (i := 80) (by decide +kernel) rfl) nwX0_ok dX7_init_54 dX7_init_57 dX7_init_58 (mn_X7_35 hN) dX7_init_61 fl_X7_36 fp_6_5 rfl rfl (fun _ => rfl) (fun _ => rfl) l5 (by decide) (fun q' => i_orders (d := d + 59) hN) rfl rfl (fun q6 w6 h6 l6 => ?_))
  obtain ⟨a5, rfl, rfl⟩ := h6
  refine g_aload0 dX7_init_64 (di_o (r := (RX2, TX2, 7)) (nw := nwX2) (mc' := 5) (ms' := 488) rfl tyX2 tyX2_ok gu_2 (gw_at (i := 202) (by decide +kernel) rfl) (gw_at (i := 203) (by decide +kernel) rfl) (gw_at (i := 81) (by decide +kernel) rfl) nwX2_ok dX7_init_65 dX7_init_68 dX7_init_69 (mn_X7_42 hN) dX7_init_72 fl_X7_43 fp_6_6 rfl rfl (fun _ => rfl) (fun _ => rfl) l6 (by decide) (fun q' => i_reader (d := d + 58) hN) rfl rfl (fun q7 w7 h7 l7 => ?_))
  obtain ⟨a6, rfl, rfl⟩ := h7
  refine g_aload0 dX7_init_75 (g_bipush kb_6 dX7_init_76 (di_q (N := 6) (cn := 3) fl_X7_49 fp_6_7 rfl rfl (fun U H hU => (hAO U H hU).1) rfl (gw_at (i := 253) (by decide +kernel) rfl) (by decide) (by decide) l7 (by decide) dX7_init_78 dX7_init_81 rfl rfl (fun q8 l8 => ?_)))
  refine g_aload0 dX7_init_84 (g_iconst ki_0 dX7_init_85 (di_p fl_X7_53 fp_6_8 rfl rfl l8 (by decide) dX7_init_86 (fun l9 => ?_)))
  refine g_aload0 dX7_init_89 (g_bipush kb_6 dX7_init_90 (di_i (N := 6) fl_X7_59 fp_6_9 rfl rfl (by decide) (by decide) l9 (by decide) dX7_init_92 dX7_init_94 rfl rfl (fun q10 l10 => ?_)))
  refine g_aload0 dX7_init_97 (g_iconst ki_4 dX7_init_98 (di_q (N := 4) (cn := 2) fl_X7_65 fp_6_10 rfl rfl (fun U H hU => (hAO U H hU).2) rfl (gw_at (i := 255) (by decide +kernel) rfl) (by decide) (by decide) l10 (by decide) dX7_init_99 dX7_init_102 rfl rfl (fun q11 l11 => ?_)))
  refine g_aload0 dX7_init_105 (g_bipush kb_6 dX7_init_106 (di_i (N := 6) fl_X7_69 fp_6_11 rfl rfl (by decide) (by decide) l11 (by decide) dX7_init_108 dX7_init_110 rfl rfl (fun q12 l12 => ?_)))
  refine g_aload0 dX7_init_113 (g_iconst ki_4 dX7_init_114 (di_i (N := 4) fl_X7_72 fp_6_12 rfl rfl (by decide) (by decide) l12 (by decide) dX7_init_115 dX7_init_117 rfl rfl (fun q13 l13 => ?_)))
  refine g_aload0 dX7_init_120 (g_bipush kb_36 dX7_init_121 (di_i (N := 36) fl_X7_75 fp_6_13 rfl rfl (by decide) (by decide) l13 (by decide) dX7_init_123 dX7_init_125 rfl rfl (fun q14 l14 => ?_)))
  refine g_iconst ki_0 dX7_init_128 (g_istore1 dX7_init_129 rfl rfl ?_)
  refine g_perm (di_pm _ _ _ _ _ _ _ _ _ _ _ _ _) ?_
  simp only [List.set_cons_succ, List.set_cons_zero]
  exact kk _ _ _ _ _ _ _ _ _ _ _ _
end S9q
