/-! the start: statics, String constants, classes -/
def lw_flat : List Cond := flatC (Jvm.Cond.and given_1 narrow_1)
def stTm (i : Nat) : Term := .string (strL.getD i ("", 0, "")).1 (strL.getD i ("", 0, "")).2.1
theorem lf_len : ∀ i, i < 15 → lenS.getD i 0 < 2 ^ 31 := by decide +kernel
theorem lf_ex : ∀ i, i < 15 → Cond.exactly (stTm i) "java/lang/String" ∈ lw_flat := by decide +kernel
theorem lf_co : ∀ i, i < 15 → Cond.eq (.field (stTm i) "java/lang/String" "coder" "B") (.int 0) ∈ lw_flat := by decide +kernel
theorem lf_ar : ∀ i, i < 15 → Cond.arrayOf (.field (stTm i) "java/lang/String" "value" "[B") .byte ∈ lw_flat := by decide +kernel
theorem lf_le : ∀ i, i < 15 → Cond.eq (.length (.field (stTm i) "java/lang/String" "value" "[B")) (.int (Int32.ofNat (lenS.getD i 0))) ∈ lw_flat := by decide +kernel
theorem lf_el : ∀ i, i < 15 → ∀ j, j < lenS.getD i 0 → Cond.eq (.elem (.field (stTm i) "java/lang/String" "value" "[B") (.int (Int32.ofNat j))) (.int ((bytS.getD i []).getD j 0)) ∈ lw_flat := by decide +kernel
theorem lf_ne : ∀ j, j < 15 → ∀ i, i < j → Cond.not (Cond.eq (stTm i) (stTm j)) ∈ lw_flat := by decide +kernel
theorem lf_sr : ∀ i, i < 15 → Cond.stringRef (strL.getD i ("", 0, "")).1 (strL.getD i ("", 0, "")).2.1 (strL.getD i ("", 0, "")).2.2 ∈ lw_tbl := by decide +kernel
theorem lf_nt : ∀ w ∈ g_nest, w.onTables = true := by decide +kernel
theorem lf_ka : ∀ j, j < 6 → Cond.eq (.elem (.static "DogsOnLeads" "KIND_ABOVE" "[I") (.int (Int32.ofNat j))) (.int (kaF j)) ∈ lw_flat := by decide +kernel
theorem lf_lp : ∀ j, j < 3 → Cond.eq (.elem (.static "DogsOnLeads" "LEAST_OF_PART" "[I") (.int (Int32.ofNat j))) (.int (lpF j)) ∈ lw_flat := by decide +kernel
theorem lf_mp : ∀ j, j < 3 → Cond.eq (.elem (.static "DogsOnLeads" "MOST_OF_PART" "[I") (.int (Int32.ofNat j))) (.int (mpF j)) ∈ lw_flat := by decide +kernel
section S9x
variable {s : State} {args : Array Value}
theorem lw_sta (hts : ∀ w ∈ lw_tbl, w.before args s = true) (hgv : (Jvm.Cond.and given_1 narrow_1).before args s = true) : ∃ adK adV ta, g_Sta s.heap.size adK adV ta s s.heap := by
  have hs : ∀ c ∈ lw_flat, c.before args s = true := flat_of_before _ hgv
  have hA : ∀ a : Nat, a < s.heap.size → ¬ A0 s.heap.size a := fun a h => Nat.not_le.mpr h
  obtain ⟨adK, adV, hS, hev⟩ := vk_Sof (args := args) (s := s) (N := 15) (tm := stTm) (len := lenS) (byt := bytS) (A := A0 s.heap.size) lf_len (fun i hi => hs _ (lf_ex i hi)) (fun i hi => hs _ (lf_co i hi)) (fun i hi => hs _ (lf_ar i hi)) (fun i hi => hs _ (lf_le i hi)) (fun i hi j hj => hs _ (lf_el i hi j hj)) (fun i j hi hj hne => by
    by_cases q : i < j
    · exact Or.inl (hs _ (lf_ne j hj i q))
    · exact Or.inr (hs _ (lf_ne i hi j (by omega)))) hA
  obtain ⟨t0, e0, T0⟩ := va_Tof (args := args) (s := s) (tm := .static "DogsOnLeads" "KIND_ABOVE" "[I") (ty := .int) (N := 6) (f := fun j => .int (kaF j)) (A := A0 s.heap.size) (by decide) (hs _ (by decide +kernel)) (va_eqt (hs (Cond.eq (.length (.static "DogsOnLeads" "KIND_ABOVE" "[I")) (.int (Int32.ofNat 6))) (by decide +kernel))) (fun j hj => va_eqt (hs _ (lf_ka j hj))) hA
  obtain ⟨t1, e1, T1⟩ := va_Tof (args := args) (s := s) (tm := .static "DogsOnLeads" "LEAST_OF_PART" "[I") (ty := .int) (N := 3) (f := fun j => .int (lpF j)) (A := A0 s.heap.size) (by decide) (hs _ (by decide +kernel)) (va_eqt (hs (Cond.eq (.length (.static "DogsOnLeads" "LEAST_OF_PART" "[I")) (.int (Int32.ofNat 3))) (by decide +kernel))) (fun j hj => va_eqt (hs _ (lf_lp j hj))) hA
  obtain ⟨t2, e2, T2⟩ := va_Tof (args := args) (s := s) (tm := .static "DogsOnLeads" "MOST_OF_PART" "[I") (ty := .int) (N := 3) (f := fun j => .int (mpF j)) (A := A0 s.heap.size) (by decide) (hs _ (by decide +kernel)) (va_eqt (hs (Cond.eq (.length (.static "DogsOnLeads" "MOST_OF_PART" "[I")) (.int (Int32.ofNat 3))) (by decide +kernel))) (fun j hj => va_eqt (hs _ (lf_mp j hj))) hA
  have hini : (Cond.initialized "DogsOnLeads").before args s = true := hts _ (by decide +kernel)
  refine ⟨adK, adV, fun j => if j = 0 then t0 else if j = 1 then t1 else t2, fun w hw => va_Nw.of (lf_nt w hw) (hts w (g_nest_in w hw)), hS, fun i q hq => ?_, ?_, ?_, ⟨?_, T0⟩, ⟨?_, T1⟩, ?_, T2⟩
  · have hi : i < 15 := (List.getElem?_eq_some_iff.mp hq).1
    have hg : strL.getD i ("", 0, "") = q := by rw [List.getD_eq_getElem?_getD, hq]; rfl
    have h1 := hts _ (lf_sr i hi)
    have h2 := hev i hi
    unfold stTm at h2
    rw [hg] at h1 h2
    exact vk_R.of h1 h2
  · exact va_Zof (hts _ (by decide +kernel)) (hts _ (by decide +kernel)) (va_eqt (hs (Cond.eq (.static "java/lang/String" "COMPACT_STRINGS" "Z") (.int 1)) (by decide +kernel))) hA
  · exact va_Zqof (hts _ (by decide +kernel)) (hts _ (by decide +kernel)) (hs _ (by decide +kernel)) hA
  · exact va_Zof (hts _ (by decide +kernel)) hini e0 hA
  · exact va_Zof (hts _ (by decide +kernel)) hini e1 hA
  · exact va_Zof (hts _ (by decide +kernel)) hini e2 hA
theorem arr_of {cA : ClassId} {kA : Class} {comp : ClassId} {ty : FieldType} (h2 : s.vm.classes[cA]? = some kA) (h3 : kA.kind = .array comp ty) : ArrOfT s cA ty := fun n z => ⟨fun k h => (by cases h), kA, h2, comp, h3⟩
theorem lw_K (hts : ∀ w ∈ lw_tbl, w.before args s = true) : ∃ (D : va_G) (cA : Nat → ClassId), va_K D vwCl [(cA 0, .int), (cA 1, .boolean), (cA 2, .object "DogsOnLeads$Sheet"), (cA 3, .object "DogsOnLeads$Text")] s := by
  have hg : ∀ w ∈ gw, w.before args s = true := fun w hw => hts w (List.mem_filter.mp hw).1
  obtain ⟨c0, i0, k0⟩ := u_known (C := RX0) (T := TX0) (N := 6) (n := 6) hg gu_0 (hg (.instantiable RX0 6) (gw_at (i := 176) (by decide +kernel) rfl))
  obtain ⟨c1, i1, k1⟩ := u_known (C := RX1) (T := TX1) (N := 8) (n := 8) hg gu_1 (hg (.instantiable RX1 8) (gw_at (i := 103) (by decide +kernel) rfl))
  obtain ⟨c2, i2, k2⟩ := u_known (C := RX2) (T := TX2) (N := 7) (n := 7) hg gu_2 (hg (.instantiable RX2 7) (gw_at (i := 203) (by decide +kernel) rfl))
  obtain ⟨c3, i3, k3⟩ := u_known (C := RX3) (T := TX3) (N := 6) (n := 6) hg gu_3 (hg (.instantiable RX3 6) (gw_at (i := 109) (by decide +kernel) rfl))
  obtain ⟨c4, i4, k4⟩ := u_known (C := RX4) (T := TX4) (N := 3) (n := 3) hg gu_4 (hg (.instantiable RX4 3) (gw_at (i := 258) (by decide +kernel) rfl))
  obtain ⟨c5, i5, k5⟩ := u_known (C := RX5) (T := TX5) (N := 5) (n := 5) hg gu_5 (hg (.instantiable RX5 5) (gw_at (i := 209) (by decide +kernel) rfl))
  obtain ⟨c6, i6, k6⟩ := u_known (C := RX7) (T := TX7) (N := 14) (n := 14) hg gu_6 (hg (.instantiable RX7 14) (gw_at (i := 95) (by decide +kernel) rfl))
  obtain ⟨c7, i7, k7⟩ := u_known (C := RX8) (T := TX8) (N := 56) (n := 56) hg gu_7 (hg (.instantiable RX8 56) (gw_at (i := 937) (by decide +kernel) rfl))
  obtain ⟨a0, ka0, p0, f0, g0, h0⟩ := Cond.arrayClass_spec (hts (.arrayClass .int) (by decide +kernel))
  obtain ⟨a1, ka1, p1, f1, g1, h1⟩ := Cond.arrayClass_spec (hts (.arrayClass .boolean) (by decide +kernel))
  obtain ⟨p2, a2, ka2, e2, -, g2, h2, f2⟩ := Cond.arrayOver_spec (hts (.arrayOver (.object "DogsOnLeads$Sheet")) (by decide +kernel))
  obtain ⟨p3, a3, ka3, e3, -, g3, h3, f3⟩ := Cond.arrayOver_spec (hts (.arrayOver (.object "DogsOnLeads$Text")) (by decide +kernel))
  refine ⟨(fun k => [c0, c1, c2, c3, c4, c5, c6, c7].getD k c0, fun k => [i0, i1, i2, i3, i4, i5, i6, i7].getD k i0), fun k => [a0, a1, a2, a3].getD k a0, fun k q hq => ?_, fun k q hq => ?_⟩
  · match k, hq with
    | 0, hq => cases hq; exact k0
    | 1, hq => cases hq; exact k1
    | 2, hq => cases hq; exact k2
    | 3, hq => cases hq; exact k3
    | 4, hq => cases hq; exact k4
    | 5, hq => cases hq; exact k5
    | 6, hq => cases hq; exact k6
    | 7, hq => cases hq; exact k7
    | k + 8, hq => simp [vwCl] at hq
  · match k, hq with
    | 0, hq => cases hq; exact ⟨arr_of g0 h0, f0⟩
    | 1, hq => cases hq; exact ⟨arr_of g1 h1, f1⟩
    | 2, hq => cases hq; exact ⟨arr_of g2 h2, ka2, p2, g2, h2, e2, f2⟩
    | 3, hq => cases hq; exact ⟨arr_of g3 h3, ka3, p3, g3, h3, e3, f3⟩
    | k + 4, hq => simp at hq
end S9x
/-! the law from its entry -/
section S9y
variable {E : GE} {adK adV ta a b : Nat → Nat} {sb L : Nat} {xs : Nat → Int32} {A : Nat → Prop}
theorem lw_init {w : va_W} {B : Nat → va_W} {tC : Nat → List Int32} {tE : Nat → Nat → Nat} {f : Nat → Nat → Int32} (hp : List.Perm w ((List.range 25).flatMap B)) (hB : CB E a D00 0 [] D00 0 [] 0 1 [] tC tE (fun _ => (-1, [])) B) (hX : TX B40 (tC 0) (tE 0)) (hT : TB B40 0 f) (hf : agF [1, 2] (fun _ _ => 0) f) : LW E a b (w ++ mW E b (upd (upd z0f 49 (-1)) 3 1) 0 f) := by
  obtain ⟨c0, c1, c2, c3, c4, c5, c6, c7, c8, c9, c10, c11, c12, c13, c14, c15, c16⟩ := hB
  refine ⟨D00, 0, [], D00, 0, [], 0, 1, [], tC, tE, fun _ => (-1, []), upd (upd z0f 49 (-1)) 3 1, 0, f, ⟨bkU B [(25, mW E b (upd (upd z0f 49 (-1)) 3 1) 0 f)], ?_, rfl, c0, c1, c2, c3, c4, c5, c6, c7, c8, c9, c10, c11, c12, c13, c14, fun i hi => ?_, fun i hi => ?_⟩, ⟨rfl, ?_, ?_, ?_, ?_, ?_⟩, ⟨Nat.zero_le _, rfl, ?_, ?_⟩, ⟨[], trivial, rfl, fun c hc => absurd hc List.not_mem_nil⟩, rfl, by decide, ⟨by decide, rfl, rfl, Nat.zero_le _, fun x hx => absurd hx List.not_mem_nil, Lst_nil, fun i hi => ?_⟩, Or.inl ⟨rfl, rfl⟩, fun i hi => ⟨hi, Nat.zero_le _, ⟨by show (-1 : Int) ≤ ((-1 : Int32)).toInt; decide, by show ((-1 : Int32)).toInt ≤ (2 : Int); decide⟩, fun _ => ?_, fun q => absurd (show ((-1 : Int32)).toInt = -1 by decide) q⟩⟩
  · unfold bkP
    rw [show List.range 26 = List.range 25 ++ [25] from rfl, List.flatMap_append]
    have e1 : (List.range 25).flatMap (bkU B [(25, mW E b (upd (upd z0f 49 (-1)) 3 1) 0 f)]) = (List.range 25).flatMap B := by
      rw [List.flatMap_def, List.flatMap_def]
      congr 1
    rw [e1]
    refine hp.append (List.Perm.of_eq ?_)
    simp [bkU]
  · rw [bkU_o (by simp; omega)]; exact c15 i hi
  · rw [bkU_o (by simp; omega)]; exact c16 i hi
  · exact Lst_nil
  · exact Lst_nil
  · exact Lst_nil
  · exact Lst_nil
  · exact Lst_nil
  · exact Lst_nil
  · exact Lst_nil
  · have : i = 0 := by omega
    subst this
    exact ⟨B40, hT, hX⟩
  · rw [hf.at 52 rfl]
set_option maxRecDepth 40000 in
set_option maxHeartbeats 4000000 in
theorem lw_go (hE : g_E E adK adV ta) (hsb : sb < E.2.2.2.1) (hL : L ≤ 3072) : G (lwE E sb L xs) mL_law 1750 600000 7302250 A lwQ 0 0 0 [some (.ref sb), none, none, none] [] [] := by
  have hN := g_E_N hE
  refine g_new (ci := 6) (r := (RX7, TX7, 14)) (fs := nwX7) rfl tyX7 tyX7_ok gu_6 (gw_at (i := 94) (by decide +kernel) rfl) (gw_at (i := 95) (by decide +kernel) rfl) (gw_at (i := 77) (by decide +kernel) rfl) nwX7_ok dL_law_0 (Nat.le_of_ble_eq_true rfl) (Nat.le_of_ble_eq_true rfl) (fun q => g_dup dL_law_3 rfl ?_)
  refine g_callI dL_law_4 mv_L_9 (Nat.le_of_ble_eq_true rfl) (i_dol (d := 1688) hE (lwE_st hN.1 hsb) (fun _ _ h => h.1) (fun _ _ h => ⟨h.2.2.1, h.2.2.2⟩)) (Nat.le_of_ble_eq_true rfl) (Nat.le_of_ble_eq_true rfl) (fun v w hq => ?_)
  obtain ⟨rfl, a, B, tC, tE, rfl, hp, hB, hX⟩ := hq
  refine g_astore1 dL_law_7 rfl rfl ?_
  refine g_new (ci := 7) (r := (RX8, TX8, 56)) (fs := nwX8) rfl tyX8 tyX8_ok gu_7 (gw_at (i := 936) (by decide +kernel) rfl) (gw_at (i := 937) (by decide +kernel) rfl) (gw_at (i := 91) (by decide +kernel) rfl) nwX8_ok dL_law_8 (Nat.le_of_ble_eq_true rfl) (Nat.le_of_ble_eq_true rfl) (fun q2 => g_dup dL_law_11 rfl ?_)
  refine g_callI dL_law_12 mv_L_12 (Nat.le_of_ble_eq_true rfl) (g_frame (X := w) (Y := []) (g_cE (E := E) (fun _ _ h => h.1) (i_model (d := 1745) hN))) (Nat.le_of_ble_eq_true rfl) (Nat.le_of_ble_eq_true rfl) (fun v2 w2 hq => ?_)
  obtain ⟨w3, ⟨rfl, b, f, rfl, rfl, hT, hf⟩, rfl⟩ := hq
  rw [List.append_nil]
  refine g_astore2 dL_law_15 rfl rfl (g_iconst ki_0 dL_law_16 (g_istore3 dL_law_17 rfl rfl ?_))
  have hl := lw_loop (xs := xs) (A := A) hE hsb hL (L + 1) 0 (w ++ mW E b (upd (upd z0f 49 (-1)) 3 1) 0 f) (Nat.zero_le _) (by omega) (lw_init hp hB hX hT hf)
  rw [nI_0] at hl
  exact hl
end S9y
