/-! new cells -/
section S9f
variable {E : GE} {M : GM} {d mc ms : Nat} {A : Nat → Prop} {Q : Option Value → va_W → Prop} {k n pc : Nat} {ls : List (Option Value)} {st : List Value} {ws : va_W}
theorem nlt0 {x : Int32} {N : Nat} (hx : x.toInt = N) : ¬ x < 0 := fun q => by
  have := Int32.lt_iff_toInt_lt.mp q
  have e : (0 : Int32).toInt = 0 := rfl
  omega
set_option maxHeartbeats 1000000 in
theorem g_newi {N : Nat} {x : Int32} (hx : x.toInt = N) (hN : N ≤ 1000) (hd : decode M.2.1 pc = .ok (.newarray .int, 2)) (hk : k + 1 ≤ mc) (hk2 : n + N ≤ ms) (kk : ∀ q : Nat, G E M d mc ms A Q (k + 1) (n + N) (pc + 2) ls (.ref q :: st) (ws ++ [(q, ia E N (fun _ => 0))])) : G E M d mc ms A Q k n pc ls (.int x :: st) ws := by
  intro p e s m args below meth c H locs ls0 hc hP hD hS hl
  have hK := hc.2.2.2.2.2.2.2.1
  have hts : ∀ {i : Nat} {w : Cond}, lw_tbl[i]? = some w → goodWord w = true → w.before args s = true := fun h1 h2 => hc.2.2.2.2.2.2.1 _ (List.mem_cons_of_mem _ (gw_at h1 h2))
  refine va_newa hc.1 hc.2.1 (atype := .int) (hts (i := 139) (by decide +kernel) rfl) rfl hK hP hD hS hc.2.2.2.2.2.2.2.2.2.2.1 (N' := N) (a0 := (N, .inl (fun _ => 0))) (fun _ => rfl) (nlt0 hx) (by show x.toInt.toNat = N; omega) (by show N * 4 ≤ 536870912; omega) hk hk2 hd (fun q cA H1 hK1 hP1 hD1 hS1 => ?_)
  have e0 : s.vm.findClass ("[" ++ (FieldType.int).toString) = some (E.2.2.1 0) := (hK.2 0 _ rfl).2
  have e1 : s.vm.findClass ("[" ++ (FieldType.int).toString) = some cA := (hK1.2 4 _ rfl).2
  have e2 : cA = E.2.2.1 0 := Option.some.inj (e1.symm.trans e0)
  subst e2
  exact kk q p e s m args below meth c H1 locs ls0 hc hP1 hD1 hS1 hl
set_option maxHeartbeats 1000000 in
theorem g_newz {N : Nat} {x : Int32} (hx : x.toInt = N) (hN : N ≤ 1000) (hd : decode M.2.1 pc = .ok (.newarray .boolean, 2)) (hk : k + 1 ≤ mc) (hk2 : n + N ≤ ms) (kk : ∀ q : Nat, G E M d mc ms A Q (k + 1) (n + N) (pc + 2) ls (.ref q :: st) (ws ++ [(q, .inl (E.2.2.1 1, N, .inl (fun _ => 0)))])) : G E M d mc ms A Q k n pc ls (.int x :: st) ws := by
  intro p e s m args below meth c H locs ls0 hc hP hD hS hl
  have hK := hc.2.2.2.2.2.2.2.1
  have hts : ∀ {i : Nat} {w : Cond}, lw_tbl[i]? = some w → goodWord w = true → w.before args s = true := fun h1 h2 => hc.2.2.2.2.2.2.1 _ (List.mem_cons_of_mem _ (gw_at h1 h2))
  refine va_newa hc.1 hc.2.1 (atype := .boolean) (hts (i := 1114) (by decide +kernel) rfl) rfl hK hP hD hS hc.2.2.2.2.2.2.2.2.2.2.1 (N' := N) (a0 := (N, .inl (fun _ => 0))) (fun _ => rfl) (nlt0 hx) (by show x.toInt.toNat = N; omega) (by show N * 1 ≤ 536870912; omega) hk hk2 hd (fun q cA H1 hK1 hP1 hD1 hS1 => ?_)
  have e0 : s.vm.findClass ("[" ++ (FieldType.boolean).toString) = some (E.2.2.1 1) := (hK.2 1 _ rfl).2
  have e1 : s.vm.findClass ("[" ++ (FieldType.boolean).toString) = some cA := (hK1.2 4 _ rfl).2
  have e2 : cA = E.2.2.1 1 := Option.some.inj (e1.symm.trans e0)
  subst e2
  exact kk q p e s m args below meth c H1 locs ls0 hc hP1 hD1 hS1 hl
set_option maxHeartbeats 1000000 in
theorem g_newq {N idx cn : Nat} {x : Int32} {C : String} (hty : (g_tys E)[cn]? = some (E.2.2.1 cn, .object C)) (hcl : Cond.classLink M.1.cls idx C ∈ gw) (hov : Cond.arrayOver (.object C) ∈ gw) (hx : x.toInt = N) (hN : N ≤ 1000) (hd : decode M.2.1 pc = .ok (.anewarray idx, 3)) (hk : k + 1 ≤ mc) (hk2 : n + N ≤ ms) (kk : ∀ q : Nat, G E M d mc ms A Q (k + 1) (n + N) (pc + 3) ls (.ref q :: st) (ws ++ [(q, .inl (E.2.2.1 cn, N, .inr (.inr (.inr (.inr (fun _ => none))))))])) : G E M d mc ms A Q k n pc ls (.int x :: st) ws := by
  intro p e s m args below meth c H locs ls0 hc hP hD hS hl
  have hK := hc.2.2.2.2.2.2.2.1
  have hts : ∀ {w : Cond}, w ∈ gw → w.before args s = true := fun h1 => hc.2.2.2.2.2.2.1 _ (List.mem_cons_of_mem _ h1)
  refine va_newq hc.1 hc.2.1 hc.2.2.2.2.2.1 (hts hcl) (va_AO.of (hts hov)) hK hP hD hS hc.2.2.2.2.2.2.2.2.2.2.1 (N' := N) (nlt0 hx) (by show x.toInt.toNat = N; omega) (by omega) hk hk2 hd (fun q cA H1 hK1 hP1 hD1 hS1 => ?_)
  obtain ⟨-, -, -, -, -, e0⟩ := (hK.2 cn _ hty).2
  obtain ⟨-, -, -, -, -, e1⟩ := (hK1.2 4 _ rfl).2
  have e2 : cA = E.2.2.1 cn := Option.some.inj (e1.symm.trans e0)
  subst e2
  exact kk q p e s m args below meth c H1 locs ls0 hc hP1 hD1 hS1 hl
theorem g_aastq {a m v ci : Nat} {f : Nat → Option Nat} {vs : List Value} {r : vw_C} {i : Int32} (cn : Nat) (j kv : Nat) (hty : (g_tys E)[cn]? = some (E.2.2.1 cn, .object r.1)) (hr : vwCl[ci]? = some r) (he : ws[j]? = some (a, .inl (E.2.2.1 cn, m, .inr (.inr (.inr (.inr f)))))) (hv : ws[kv]? = some (v, .inr (ci, vs))) (hd : decode M.2.1 pc = .ok (.aastore, 1)) (hi : 0 ≤ i.toInt ∧ i.toInt < m) (kk : G E M d mc ms A Q k n (pc + 1) ls st (ws.set j (a, .inl (E.2.2.1 cn, m, .inr (.inr (.inr (.inr (va_up f i.toInt.toNat (some v)))))))) ) : G E M d mc ms A Q k n pc ls (.ref v :: .int i :: .ref a :: st) ws := by
  intro p e s m args below meth c H locs ls0 hc hP hD hS hl
  exact va_astq hc.1 hc.2.1 hc.2.2.2.2.2.2.2.1 hP hD hS j cn kv ci he hty hv hr (g_vin hi) hd (fun H1 locs1 hP1 hD1 hS1 => kk p e s m args below meth c H1 locs1 ls0 hc hP1 hD1 hS1 hl)
set_option maxHeartbeats 1000000 in
theorem g_new {idx ci : Nat} {r : vw_C} {fs : List Value} (hr : vwCl[ci]? = some r) (ty : Nat → FieldType) (hty : ∀ j, j < r.2.2 → parseFieldDescriptor (r.2.1 j).2.2.1 = some (ty j)) (hin : ∀ w ∈ u_ws r.1 r.2.1 r.2.2, w ∈ gw) (hcl : Cond.classLink M.1.cls idx r.1 ∈ gw) (hit : Cond.instantiable r.1 r.2.2 ∈ gw) (hini : Cond.initialized r.1 ∈ gw) (hfs : ∀ j, j < r.2.2 → defaultValue (ty j) = vp_V fs j) (hd : decode M.2.1 pc = .ok (.new idx, 3)) (hk : k + 1 ≤ mc) (hk2 : n + r.2.2 ≤ ms) (kk : ∀ q : Nat, G E M d mc ms A Q (k + 1) (n + r.2.2) (pc + 3) ls (.ref q :: st) (ws ++ [(q, .inr (ci, fs))])) : G E M d mc ms A Q k n pc ls st ws := by
  intro p e s m args below meth c H locs ls0 hc hP hD hS hl
  have hts : ∀ {w : Cond}, w ∈ gw → w.before args s = true := fun h1 => hc.2.2.2.2.2.2.1 _ (List.mem_cons_of_mem _ h1)
  exact va_new (Ts := gw) hc.1 hc.2.1 (fun w hw => hts hw) hin ty hty hc.2.2.2.2.2.1 (hts hcl) (hts hit) (hts hini) hc.2.2.2.2.2.2.2.1 hP hD hS hc.2.2.2.2.2.2.2.2.2.2.1 hr hfs hk hk2 hd (fun q H1 hP1 hD1 hS1 => kk q p e s m args below meth c H1 locs ls0 hc hP1 hD1 hS1 hl)
theorem g_obj {idx a : Nat} (hlk : Cond.methodLink M.1.cls idx Lib.objectInit ∈ gw) (hd : decode M.2.1 pc = .ok (.invokespecial idx, 3)) (kk : G E M (d + 1) mc ms A Q k n (pc + 3) ls [] ws) : G E M (d + 1) mc ms A Q k n pc ls [.ref a] ws := by
  intro p e s m args below meth c H locs ls0 hc hP hD hS hl
  have hts : ∀ {w : Cond}, w ∈ gw → w.before args s = true := fun h1 => hc.2.2.2.2.2.2.1 _ (List.mem_cons_of_mem _ h1)
  refine W.objInit hc.1 hc.2.1 hc.2.2.2.2.2.1 (hts hlk) (hts (gw_at (i := 100) (by decide +kernel) rfl)) (hts (gw_at (i := 101) (by decide +kernel) rfl)) rfl (by show ls0.size = _; rw [hl.1, hc.2.2.2.2.1]) (rest := []) rfl hd ?_ ?_ (kk p e s m args below meth c H locs ls0 hc hP hD hS hl)
  · show 1 ≤ d + 1
    omega
  · show 2 * 0 + 0 + 12 ≤ 48 * (d + 1)
    omega
end S9f
