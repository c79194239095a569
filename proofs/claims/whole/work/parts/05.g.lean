abbrev vwCl : List vw_C := [(RX0, TX0, 6), (RX1, TX1, 8), (RX2, TX2, 7), (RX3, TX3, 6), (RX4, TX4, 3), (RX5, TX5, 5), (RX7, TX7, 14), (RX8, TX8, 56)]
def gw : List Cond := lw_tbl.filter goodWord
theorem gw_at {i : Nat} {w : Cond} (h : lw_tbl[i]? = some w) (hg : goodWord w = true) : w ∈ gw := List.mem_filter.mpr ⟨List.mem_of_getElem? h, hg⟩
abbrev GE : Type := Launch × va_G × (Nat → ClassId) × Nat × (State → Heap → Prop)
abbrev GM : Type := MethodName × ByteArray × Nat × Option FieldType
def g_tys (E : GE) : List (ClassId × FieldType) := [(E.2.2.1 0, .int), (E.2.2.1 1, .boolean), (E.2.2.1 2, .object "DogsOnLeads$Sheet"), (E.2.2.1 3, .object "DogsOnLeads$Text")]
def g_rm (d mc ms : Nat) : Room := { frames := d, cells := mc, slots := ms, locals := 48 * d }
def g_wd (M : GM) : List Cond := Cond.code M.1 M.2.1 M.2.2.1 M.2.2.2 :: gw
def g_loc (ls0 : Array Slot) (n : Nat) (ls : List (Option Value)) : Prop := ls0.size = n ∧ lv_wf ls0 ∧ ∀ (i : Nat) (v : Value), ls[i]? = some (some v) → ls0[i]? = some (.val v)
def g_Q (E : GE) (A : Nat → Prop) (Q : Option Value → va_W → Prop) : Array Value → State → Outcome → State → Prop := fun _ st oc t => (∃ (v : Option Value) (w : va_W), oc = .returned v ∧ Q v w ∧ va_P E.2.1 vwCl w t.heap ∧ va_D A w) ∧ va_F A st t
def g_Pr (E : GE) (sz : Nat) (ws : va_W) (U : State) : Prop := U.heap.size = sz ∧ E.2.2.2.1 ≤ sz ∧ va_P E.2.1 vwCl ws U.heap ∧ va_K E.2.1 vwCl (g_tys E) U ∧ va_D (fun q => E.2.2.2.1 ≤ q) ws ∧ E.2.2.2.2 U U.heap
def g_C (E : GE) (M : GM) (d mc ms : Nat) (av : List Value) (ws : va_W) (Q : Option Value → va_W → Prop) : Prop := ∀ sz : Nat, Met E.1 M.1 (g_wd M) (g_rm d mc ms) (va_Pc av (g_Pr E sz ws)) (g_Q E (va_A ws sz) Q) mc ms (va_A ws sz)
/-- what is said of the statics stays, while the cells below the base stay and the tables grow warmer -/
def g_St (E : GE) : Prop := ∀ (s U : State) (H H' : Heap), s.WarmedH U.vm → (∀ q : Nat, q < E.2.2.2.1 → H'[q]? = H[q]?) → E.2.2.2.2 s H → E.2.2.2.2 U H'
def g_ctx (E : GE) (M : GM) (A : Nat → Prop) (p : Program) (s : State) (m : MethodId) (args : Array Value) (meth : Method) (c : Code) : Prop :=
  p.tables.exec = Jvm.exec ∧ c.code = M.2.1 ∧ meth.sig.returnType = M.2.2.2 ∧ meth.locks = false ∧ c.maxLocals = M.2.2.1 ∧ s.vm.findClass M.1.cls = some m.cls ∧ (∀ w ∈ g_wd M, w.before args s = true) ∧ va_K E.2.1 vwCl (g_tys E) s ∧ E.2.2.2.2 s s.heap ∧ (∀ q : Nat, A q → E.2.2.2.1 ≤ q) ∧ (∀ q : Nat, s.heap.size ≤ q → A q) ∧ E.2.2.2.1 ≤ s.heap.size ∧ meth.name = M.1.name ∧ g_St E
def G (E : GE) (M : GM) (d mc ms : Nat) (A : Nat → Prop) (Q : Option Value → va_W → Prop) (k n pc : Nat) (ls : List (Option Value)) (st : List Value) (ws : va_W) : Prop :=
  ∀ (p : Program) (e : Env) (s : State) (m : MethodId) (args : Array Value) (below : List Frame) (meth : Method) (c : Code) (H : Heap) (locs : List Loc) (ls0 : Array Slot), g_ctx E M A p s m args meth c → va_P E.2.1 vwCl ws H → va_D A ws → va_S A s.heap H locs → g_loc ls0 M.2.2.1 ls →
    W p E.1 e (g_rm d mc ms) s m args below meth c H locs k n (MQ below (g_Q E A Q) args s mc ms A) (F0 m pc ls0 st)
/-- the entry's locals -/
def g_sl : List Value → List (Option Value)
  | [] => []
  | v :: r => some v :: (if v.category = 2 then none :: g_sl r else g_sl r)
def g_la (n : Nat) (av : List Value) : List (Option Value) := g_sl av ++ List.replicate (n - (g_sl av).length) none
theorem g_sl_in : ∀ (av : List Value) (j i : Nat) (v : Value), (g_sl av)[i]? = some (some v) → (j + i, v) ∈ lv_args j av
  | [], j, i, v, h => by simp [g_sl] at h
  | u :: r, j, i, v, h => by
    rw [g_sl] at h
    cases i with
    | zero =>
      simp at h
      subst h
      exact List.mem_cons_self
    | succ i =>
      rw [List.getElem?_cons_succ] at h
      rw [lv_args]
      by_cases hc : u.category = 2
      · rw [if_pos hc] at h ⊢
        cases i with
        | zero => simp at h
        | succ i =>
          rw [List.getElem?_cons_succ] at h
          have h2 := g_sl_in r (j + 2) i v h
          rw [show j + (i + 1 + 1) = j + 2 + i by omega]
          exact List.mem_cons_of_mem _ h2
      · rw [if_neg hc] at h ⊢
        have h2 := g_sl_in r (j + 1) i v h
        rw [show j + (i + 1) = j + 1 + i by omega]
        exact List.mem_cons_of_mem _ h2
theorem g_la_in {n : Nat} {av : List Value} {i : Nat} {v : Value} (h : (g_la n av)[i]? = some (some v)) : (i, v) ∈ lv_args 0 av := by
  unfold g_la at h
  by_cases hi : i < (g_sl av).length
  · rw [List.getElem?_append_left hi] at h
    have := g_sl_in av 0 i v h
    rwa [Nat.zero_add] at this
  · rw [List.getElem?_append_right (by omega)] at h
    have := List.mem_of_getElem? h
    have := List.eq_of_mem_replicate this
    cases this
theorem g_wd_good {M : GM} (hc : Cond.code M.1 M.2.1 M.2.2.1 M.2.2.2 ∈ gw) : ∀ w ∈ g_wd M, w ∈ gw ∧ goodWord w = true := by
  intro w hw
  rcases List.mem_cons.mp hw with h | h
  · subst h
    exact ⟨hc, (List.mem_filter.mp hc).2⟩
  · exact ⟨h, (List.mem_filter.mp h).2⟩
set_option maxHeartbeats 4000000 in
/-- a contract out of its walk -/
theorem g_enter {E : GE} {M : GM} {d mc ms : Nat} {av : List Value} {ws : va_W} {Q : Option Value → va_W → Prop} (hst : g_St E) (hy : plainName M.1.cls = true) (ls : List (Option Value)) (hl : g_la M.2.2.1 av = ls) (hn : (lg_sl av).length ≤ M.2.2.1) (body : ∀ A, G E M d mc ms A Q 0 0 0 ls [] ws) : g_C E M d mc ms av ws Q := by
  intro sz
  refine Met.ofW (cc := M.2.1) (maxL := M.2.2.1) (ret := M.2.2.2) hy rfl ?_
  intro p e s m args below meth c s₁ B hml hv
  obtain ⟨rfl, hsz, hB, hP, hK, hD, hS⟩ := hv
  have hts := atoms_spec (ws := g_wd M) B.pre
  rw [lg_entry_eq]
  have hlv := lv_entry av (n := M.2.2.1) hn
  refine body (va_A ws sz) p e s m _ below meth c s.heap [] _ ⟨B.exec, B.bytes, B.returns, B.notSynchronized, hml, findClass_of_methodNamed B.named, hts, hK, hS, ?_, ?_, by rw [hsz]; exact hB, (name_of_methodNamed B.named B.method).1, hst⟩ hP ⟨hD.1, fun k q hk => va_A.in hk⟩ va_S.rf ⟨hlv.1, hlv.2.1, fun i v hi => ?_⟩
  · intro q hq
    rcases hq with ⟨k, e, h⟩ | h
    · exact hD.2 k _ h
    · omega
  · intro q hq
    exact Or.inr (by rw [← hsz]; exact hq)
  · rw [← hl] at hi
    exact hlv.2.2 _ (g_la_in hi)
section GR
variable {E : GE} {M : GM} {d mc ms : Nat} {A : Nat → Prop} {Q : Option Value → va_W → Prop} {k n pc : Nat} {ls : List (Option Value)} {st : List Value} {ws : va_W}
theorem g_sub {ws' : va_W} (is : List Nat) (hn : va_nd is = true) (hs : is.map (fun i => ws[i]?) = ws'.map some) (kk : G E M d mc ms A Q k n pc ls st ws') : G E M d mc ms A Q k n pc ls st ws := by
  intro p e s m args below meth c H locs ls0 hc hP hD hS hl
  refine kk p e s m args below meth c H locs ls0 hc (fun j q hq => ?_) (hD.sub is hn hs) hS hl
  have h1 : (is.map (fun i => ws[i]?))[j]? = some (some q) := by rw [hs, List.getElem?_map, hq]; rfl
  rw [List.getElem?_map] at h1
  cases hi : is[j]? with
  | none => rw [hi] at h1; cases h1
  | some i => rw [hi] at h1; exact hP i q (Option.some.inj h1)
theorem g_loose {ls' : List (Option Value)} (hs : ∀ (i : Nat) (v : Value), ls'[i]? = some (some v) → ls[i]? = some (some v)) (kk : G E M d mc ms A Q k n pc ls' st ws) : G E M d mc ms A Q k n pc ls st ws := by
  intro p e s m args below meth c H locs ls0 hc hP hD hS hl
  exact kk p e s m args below meth c H locs ls0 hc hP hD hS ⟨hl.1, hl.2.1, fun i v h => hl.2.2 i v (hs i v h)⟩
theorem g_iadd {x y : Int32} (hd : decode M.2.1 pc = .ok (.iadd, 1)) (kk : G E M d mc ms A Q k n (pc + 1) ls (.int (x + y) :: st) ws) : G E M d mc ms A Q k n pc ls (.int y :: .int x :: st) ws := by
  intro p e s m args below meth c H locs ls0 hc hP hD hS hl
  exact lv_iadd hc.1 hc.2.1 hd (kk p e s m args below meth c H locs ls0 hc hP hD hS hl)
theorem g_isub {x y : Int32} (hd : decode M.2.1 pc = .ok (.isub, 1)) (kk : G E M d mc ms A Q k n (pc + 1) ls (.int (x - y) :: st) ws) : G E M d mc ms A Q k n pc ls (.int y :: .int x :: st) ws := by
  intro p e s m args below meth c H locs ls0 hc hP hD hS hl
  exact lv_isub hc.1 hc.2.1 hd (kk p e s m args below meth c H locs ls0 hc hP hD hS hl)
theorem g_imul {x y : Int32} (hd : decode M.2.1 pc = .ok (.imul, 1)) (kk : G E M d mc ms A Q k n (pc + 1) ls (.int (x * y) :: st) ws) : G E M d mc ms A Q k n pc ls (.int y :: .int x :: st) ws := by
  intro p e s m args below meth c H locs ls0 hc hP hD hS hl
  exact lv_imul hc.1 hc.2.1 hd (kk p e s m args below meth c H locs ls0 hc hP hD hS hl)
theorem g_iand {x y : Int32} (hd : decode M.2.1 pc = .ok (.iand, 1)) (kk : G E M d mc ms A Q k n (pc + 1) ls (.int (x &&& y) :: st) ws) : G E M d mc ms A Q k n pc ls (.int y :: .int x :: st) ws := by
  intro p e s m args below meth c H locs ls0 hc hP hD hS hl
  exact lv_iand hc.1 hc.2.1 hd (kk p e s m args below meth c H locs ls0 hc hP hD hS hl)
theorem g_ior {x y : Int32} (hd : decode M.2.1 pc = .ok (.ior, 1)) (kk : G E M d mc ms A Q k n (pc + 1) ls (.int (x ||| y) :: st) ws) : G E M d mc ms A Q k n pc ls (.int y :: .int x :: st) ws := by
  intro p e s m args below meth c H locs ls0 hc hP hD hS hl
  exact lv_ior hc.1 hc.2.1 hd (kk p e s m args below meth c H locs ls0 hc hP hD hS hl)
theorem g_ixor {x y : Int32} (hd : decode M.2.1 pc = .ok (.ixor, 1)) (kk : G E M d mc ms A Q k n (pc + 1) ls (.int (x ^^^ y) :: st) ws) : G E M d mc ms A Q k n pc ls (.int y :: .int x :: st) ws := by
  intro p e s m args below meth c H locs ls0 hc hP hD hS hl
  exact lv_ixor hc.1 hc.2.1 hd (kk p e s m args below meth c H locs ls0 hc hP hD hS hl)
theorem g_idiv {x y : Int32} (hd : decode M.2.1 pc = .ok (.idiv, 1)) (h0 : ¬ y = 0) (kk : G E M d mc ms A Q k n (pc + 1) ls (.int (x / y) :: st) ws) : G E M d mc ms A Q k n pc ls (.int y :: .int x :: st) ws := by
  intro p e s m args below meth c H locs ls0 hc hP hD hS hl
  exact lv_idiv hc.1 hc.2.1 hd h0 (kk p e s m args below meth c H locs ls0 hc hP hD hS hl)
theorem g_irem {x y : Int32} (hd : decode M.2.1 pc = .ok (.irem, 1)) (h0 : ¬ y = 0) (kk : G E M d mc ms A Q k n (pc + 1) ls (.int (x - x / y * y) :: st) ws) : G E M d mc ms A Q k n pc ls (.int y :: .int x :: st) ws := by
  intro p e s m args below meth c H locs ls0 hc hP hD hS hl
  exact lv_irem hc.1 hc.2.1 hd h0 (kk p e s m args below meth c H locs ls0 hc hP hD hS hl)
theorem g_ishl {x y : Int32} (hd : decode M.2.1 pc = .ok (.ishl, 1)) (kk : G E M d mc ms A Q k n (pc + 1) ls (.int (x <<< (y &&& 31)) :: st) ws) : G E M d mc ms A Q k n pc ls (.int y :: .int x :: st) ws := by
  intro p e s m args below meth c H locs ls0 hc hP hD hS hl
  exact lv_ishl hc.1 hc.2.1 hd (kk p e s m args below meth c H locs ls0 hc hP hD hS hl)
theorem g_ishr {x y : Int32} (hd : decode M.2.1 pc = .ok (.ishr, 1)) (kk : G E M d mc ms A Q k n (pc + 1) ls (.int (x >>> (y &&& 31)) :: st) ws) : G E M d mc ms A Q k n pc ls (.int y :: .int x :: st) ws := by
  intro p e s m args below meth c H locs ls0 hc hP hD hS hl
  exact lv_ishr hc.1 hc.2.1 hd (kk p e s m args below meth c H locs ls0 hc hP hD hS hl)
theorem g_iushr {x y : Int32} (hd : decode M.2.1 pc = .ok (.iushr, 1)) (kk : G E M d mc ms A Q k n (pc + 1) ls (.int ((x.toUInt32 >>> (y.toUInt32 &&& Int32.toUInt32 31)).toInt32) :: st) ws) : G E M d mc ms A Q k n pc ls (.int y :: .int x :: st) ws := by
  intro p e s m args below meth c H locs ls0 hc hP hD hS hl
  exact lv_iushr hc.1 hc.2.1 hd rfl (kk p e s m args below meth c H locs ls0 hc hP hD hS hl)
theorem g_ineg {x : Int32} (hd : decode M.2.1 pc = .ok (.ineg, 1)) (kk : G E M d mc ms A Q k n (pc + 1) ls (.int (-x) :: st) ws) : G E M d mc ms A Q k n pc ls (.int x :: st) ws := by
  intro p e s m args below meth c H locs ls0 hc hP hD hS hl
  exact lv_ineg hc.1 hc.2.1 hd (kk p e s m args below meth c H locs ls0 hc hP hD hS hl)
theorem g_ladd {x y : Int64} (hd : decode M.2.1 pc = .ok (.ladd, 1)) (kk : G E M d mc ms A Q k n (pc + 1) ls (.long (x + y) :: st) ws) : G E M d mc ms A Q k n pc ls (.long y :: .long x :: st) ws := by
  intro p e s m args below meth c H locs ls0 hc hP hD hS hl
  exact lv_ladd hc.1 hc.2.1 hd (kk p e s m args below meth c H locs ls0 hc hP hD hS hl)
theorem g_lsub {x y : Int64} (hd : decode M.2.1 pc = .ok (.lsub, 1)) (kk : G E M d mc ms A Q k n (pc + 1) ls (.long (x - y) :: st) ws) : G E M d mc ms A Q k n pc ls (.long y :: .long x :: st) ws := by
  intro p e s m args below meth c H locs ls0 hc hP hD hS hl
  exact lv_lsub hc.1 hc.2.1 hd (kk p e s m args below meth c H locs ls0 hc hP hD hS hl)
theorem g_lmul {x y : Int64} (hd : decode M.2.1 pc = .ok (.lmul, 1)) (kk : G E M d mc ms A Q k n (pc + 1) ls (.long (x * y) :: st) ws) : G E M d mc ms A Q k n pc ls (.long y :: .long x :: st) ws := by
  intro p e s m args below meth c H locs ls0 hc hP hD hS hl
  exact lv_lmul hc.1 hc.2.1 hd (kk p e s m args below meth c H locs ls0 hc hP hD hS hl)
theorem g_ldiv {x y : Int64} (hd : decode M.2.1 pc = .ok (.ldiv, 1)) (h0 : ¬ y = 0) (kk : G E M d mc ms A Q k n (pc + 1) ls (.long (x / y) :: st) ws) : G E M d mc ms A Q k n pc ls (.long y :: .long x :: st) ws := by
  intro p e s m args below meth c H locs ls0 hc hP hD hS hl
  exact lv_ldiv hc.1 hc.2.1 hd h0 (kk p e s m args below meth c H locs ls0 hc hP hD hS hl)
theorem g_lrem {x y : Int64} (hd : decode M.2.1 pc = .ok (.lrem, 1)) (h0 : ¬ y = 0) (kk : G E M d mc ms A Q k n (pc + 1) ls (.long (x - x / y * y) :: st) ws) : G E M d mc ms A Q k n pc ls (.long y :: .long x :: st) ws := by
  intro p e s m args below meth c H locs ls0 hc hP hD hS hl
  exact lv_lrem hc.1 hc.2.1 hd h0 (kk p e s m args below meth c H locs ls0 hc hP hD hS hl)
theorem g_lcmp {x y : Int64} (hd : decode M.2.1 pc = .ok (.lcmp, 1)) (kk : G E M d mc ms A Q k n (pc + 1) ls (.int (lg_cmp x y) :: st) ws) : G E M d mc ms A Q k n pc ls (.long y :: .long x :: st) ws := by
  intro p e s m args below meth c H locs ls0 hc hP hD hS hl
  exact W.lcmp hc.1 hc.2.1 hd (kk p e s m args below meth c H locs ls0 hc hP hD hS hl)
theorem g_i2l {x : Int32} (hd : decode M.2.1 pc = .ok (.i2l, 1)) (kk : G E M d mc ms A Q k n (pc + 1) ls (.long x.toInt64 :: st) ws) : G E M d mc ms A Q k n pc ls (.int x :: st) ws := by
  intro p e s m args below meth c H locs ls0 hc hP hD hS hl
  exact lv_i2l hc.1 hc.2.1 hd rfl (kk p e s m args below meth c H locs ls0 hc hP hD hS hl)
theorem g_l2i {x : Int64} (hd : decode M.2.1 pc = .ok (.l2i, 1)) (kk : G E M d mc ms A Q k n (pc + 1) ls (.int x.toInt32 :: st) ws) : G E M d mc ms A Q k n pc ls (.long x :: st) ws := by
  intro p e s m args below meth c H locs ls0 hc hP hD hS hl
  exact lv_l2i hc.1 hc.2.1 hd rfl (kk p e s m args below meth c H locs ls0 hc hP hD hS hl)
theorem g_i2b {x : Int32} (hd : decode M.2.1 pc = .ok (.i2b, 1)) (kk : G E M d mc ms A Q k n (pc + 1) ls (.int x.toInt8.toInt32 :: st) ws) : G E M d mc ms A Q k n pc ls (.int x :: st) ws := by
  intro p e s m args below meth c H locs ls0 hc hP hD hS hl
  exact lv_i2b hc.1 hc.2.1 hd rfl (kk p e s m args below meth c H locs ls0 hc hP hD hS hl)
theorem g_i2s {x : Int32} (hd : decode M.2.1 pc = .ok (.i2s, 1)) (kk : G E M d mc ms A Q k n (pc + 1) ls (.int x.toInt16.toInt32 :: st) ws) : G E M d mc ms A Q k n pc ls (.int x :: st) ws := by
  intro p e s m args below meth c H locs ls0 hc hP hD hS hl
  exact lv_i2s hc.1 hc.2.1 hd rfl (kk p e s m args below meth c H locs ls0 hc hP hD hS hl)
theorem g_i2c {x : Int32} (hd : decode M.2.1 pc = .ok (.i2c, 1)) (kk : G E M d mc ms A Q k n (pc + 1) ls (.int (x.toUInt32 % 65536).toInt32 :: st) ws) : G E M d mc ms A Q k n pc ls (.int x :: st) ws := by
  intro p e s m args below meth c H locs ls0 hc hP hD hS hl
  exact lv_i2c hc.1 hc.2.1 hd rfl (kk p e s m args below meth c H locs ls0 hc hP hD hS hl)
theorem g_iconst {c0 : Int} {v : Int32} (hv : Int32.ofInt c0 = v) (hd : decode M.2.1 pc = .ok (.iconst c0, 1)) (kk : G E M d mc ms A Q k n (pc + 1) ls (.int v :: st) ws) : G E M d mc ms A Q k n pc ls st ws := by
  intro p e s m args below meth c H locs ls0 hc hP hD hS hl
  exact lv_iconst hc.1 hc.2.1 hd hv (kk p e s m args below meth c H locs ls0 hc hP hD hS hl)
theorem g_bipush {c0 : Int} {v : Int32} (hv : (Int8.ofInt c0).toInt32 = v) (hd : decode M.2.1 pc = .ok (.bipush c0, 2)) (kk : G E M d mc ms A Q k n (pc + 2) ls (.int v :: st) ws) : G E M d mc ms A Q k n pc ls st ws := by
  intro p e s m args below meth c H locs ls0 hc hP hD hS hl
  exact lv_bipush hc.1 hc.2.1 hd hv (kk p e s m args below meth c H locs ls0 hc hP hD hS hl)
theorem g_sipush {c0 : Int} {v : Int32} (hv : (Int16.ofInt c0).toInt32 = v) (hd : decode M.2.1 pc = .ok (.sipush c0, 3)) (kk : G E M d mc ms A Q k n (pc + 3) ls (.int v :: st) ws) : G E M d mc ms A Q k n pc ls st ws := by
  intro p e s m args below meth c H locs ls0 hc hP hD hS hl
  exact lv_sipush hc.1 hc.2.1 hd hv (kk p e s m args below meth c H locs ls0 hc hP hD hS hl)
theorem g_lconst {c0 : Fin 2} {v : Int64} (hv : Int64.ofNat (c0 : Nat) = v) (hd : decode M.2.1 pc = .ok (.lconst c0, 1)) (kk : G E M d mc ms A Q k n (pc + 1) ls (.long v :: st) ws) : G E M d mc ms A Q k n pc ls st ws := by
  intro p e s m args below meth c H locs ls0 hc hP hD hS hl
  exact lv_lconst hc.1 hc.2.1 hd hv (kk p e s m args below meth c H locs ls0 hc hP hD hS hl)
theorem g_ldc {idx : Nat} {v : Int32} (hw : Cond.constant M.1.cls idx v ∈ gw) (hd : decode M.2.1 pc = .ok (.ldc idx, 2)) (kk : G E M d mc ms A Q k n (pc + 2) ls (.int v :: st) ws) : G E M d mc ms A Q k n pc ls st ws := by
  intro p e s m args below meth c H locs ls0 hc hP hD hS hl
  exact lv_ldc hc.1 hc.2.1 hc.2.2.2.2.2.1 (hc.2.2.2.2.2.2.1 _ (List.mem_cons_of_mem _ hw)) hd (kk p e s m args below meth c H locs ls0 hc hP hD hS hl)
theorem g_ldc_w {idx : Nat} {v : Int32} (hw : Cond.constant M.1.cls idx v ∈ gw) (hd : decode M.2.1 pc = .ok (.ldc_w idx, 3)) (kk : G E M d mc ms A Q k n (pc + 3) ls (.int v :: st) ws) : G E M d mc ms A Q k n pc ls st ws := by
  intro p e s m args below meth c H locs ls0 hc hP hD hS hl
  exact lv_ldcw hc.1 hc.2.1 hc.2.2.2.2.2.1 (hc.2.2.2.2.2.2.1 _ (List.mem_cons_of_mem _ hw)) hd (kk p e s m args below meth c H locs ls0 hc hP hD hS hl)
theorem g_ldc2_w {idx : Nat} {v : Int64} (hw : Cond.constantLong M.1.cls idx v ∈ gw) (hd : decode M.2.1 pc = .ok (.ldc2_w idx, 3)) (kk : G E M d mc ms A Q k n (pc + 3) ls (.long v :: st) ws) : G E M d mc ms A Q k n pc ls st ws := by
  intro p e s m args below meth c H locs ls0 hc hP hD hS hl
  exact lv_ldc2 hc.1 hc.2.1 hc.2.2.2.2.2.1 (hc.2.2.2.2.2.2.1 _ (List.mem_cons_of_mem _ hw)) hd (kk p e s m args below meth c H locs ls0 hc hP hD hS hl)
theorem g_dup {v : Value} (hd : decode M.2.1 pc = .ok (.dup, 1)) (hv : v.category = 1) (kk : G E M d mc ms A Q k n (pc + 1) ls (v :: v :: st) ws) : G E M d mc ms A Q k n pc ls (v :: st) ws := by
  intro p e s m args below meth c H locs ls0 hc hP hD hS hl
  exact lv_dup hc.1 hc.2.1 hd hv (kk p e s m args below meth c H locs ls0 hc hP hD hS hl)
theorem g_pop {v : Value} (hd : decode M.2.1 pc = .ok (.pop, 1)) (hv : v.category = 1) (kk : G E M d mc ms A Q k n (pc + 1) ls st ws) : G E M d mc ms A Q k n pc ls (v :: st) ws := by
  intro p e s m args below meth c H locs ls0 hc hP hD hS hl
  exact lv_pop hc.1 hc.2.1 hd hv (kk p e s m args below meth c H locs ls0 hc hP hD hS hl)
theorem g_if_eq {x : Int32} {off : Int} {tgt : Nat} (hd : decode M.2.1 pc = .ok (.ifCond .eq off, 3)) (ht : (pc : Int) + off = (tgt : Int)) (kt : x.toInt = (0 : Int) → G E M d mc ms A Q k n tgt ls st ws) (kf : ¬ x.toInt = (0 : Int) → G E M d mc ms A Q k n (pc + 3) ls st ws) : G E M d mc ms A Q k n pc ls (.int x :: st) ws := by
  intro p e s m args below meth c H locs ls0 hc hP hD hS hl
  exact lv_if_eq hc.1 hc.2.1 hd ht (fun h => kt (congrArg Int32.toInt h) p e s m args below meth c H locs ls0 hc hP hD hS hl) (fun h => kf (fun q => h (Int32.toInt_inj.mp q)) p e s m args below meth c H locs ls0 hc hP hD hS hl)
theorem g_icmp_eq {x y : Int32} {off : Int} {tgt : Nat} (hd : decode M.2.1 pc = .ok (.if_icmp .eq off, 3)) (ht : (pc : Int) + off = (tgt : Int)) (kt : x.toInt = y.toInt → G E M d mc ms A Q k n tgt ls st ws) (kf : ¬ x.toInt = y.toInt → G E M d mc ms A Q k n (pc + 3) ls st ws) : G E M d mc ms A Q k n pc ls (.int y :: .int x :: st) ws := by
  intro p e s m args below meth c H locs ls0 hc hP hD hS hl
  exact lv_icmp_eq hc.1 hc.2.1 hd ht (fun h => kt (congrArg Int32.toInt h) p e s m args below meth c H locs ls0 hc hP hD hS hl) (fun h => kf (fun q => h (Int32.toInt_inj.mp q)) p e s m args below meth c H locs ls0 hc hP hD hS hl)
theorem g_if_ne {x : Int32} {off : Int} {tgt : Nat} (hd : decode M.2.1 pc = .ok (.ifCond .ne off, 3)) (ht : (pc : Int) + off = (tgt : Int)) (kt : ¬ x.toInt = (0 : Int) → G E M d mc ms A Q k n tgt ls st ws) (kf : x.toInt = (0 : Int) → G E M d mc ms A Q k n (pc + 3) ls st ws) : G E M d mc ms A Q k n pc ls (.int x :: st) ws := by
  intro p e s m args below meth c H locs ls0 hc hP hD hS hl
  exact lv_if_ne hc.1 hc.2.1 hd ht (fun h => kt (fun q => h (Int32.toInt_inj.mp q)) p e s m args below meth c H locs ls0 hc hP hD hS hl) (fun h => kf (congrArg Int32.toInt h) p e s m args below meth c H locs ls0 hc hP hD hS hl)
theorem g_icmp_ne {x y : Int32} {off : Int} {tgt : Nat} (hd : decode M.2.1 pc = .ok (.if_icmp .ne off, 3)) (ht : (pc : Int) + off = (tgt : Int)) (kt : ¬ x.toInt = y.toInt → G E M d mc ms A Q k n tgt ls st ws) (kf : x.toInt = y.toInt → G E M d mc ms A Q k n (pc + 3) ls st ws) : G E M d mc ms A Q k n pc ls (.int y :: .int x :: st) ws := by
  intro p e s m args below meth c H locs ls0 hc hP hD hS hl
  exact lv_icmp_ne hc.1 hc.2.1 hd ht (fun h => kt (fun q => h (Int32.toInt_inj.mp q)) p e s m args below meth c H locs ls0 hc hP hD hS hl) (fun h => kf (congrArg Int32.toInt h) p e s m args below meth c H locs ls0 hc hP hD hS hl)
theorem g_if_lt {x : Int32} {off : Int} {tgt : Nat} (hd : decode M.2.1 pc = .ok (.ifCond .lt off, 3)) (ht : (pc : Int) + off = (tgt : Int)) (kt : x.toInt < (0 : Int) → G E M d mc ms A Q k n tgt ls st ws) (kf : ¬ x.toInt < (0 : Int) → G E M d mc ms A Q k n (pc + 3) ls st ws) : G E M d mc ms A Q k n pc ls (.int x :: st) ws := by
  intro p e s m args below meth c H locs ls0 hc hP hD hS hl
  exact lv_if_lt hc.1 hc.2.1 hd ht (fun h => kt (Int32.lt_iff_toInt_lt.mp h) p e s m args below meth c H locs ls0 hc hP hD hS hl) (fun h => kf (fun q => h (Int32.lt_iff_toInt_lt.mpr q)) p e s m args below meth c H locs ls0 hc hP hD hS hl)
theorem g_icmp_lt {x y : Int32} {off : Int} {tgt : Nat} (hd : decode M.2.1 pc = .ok (.if_icmp .lt off, 3)) (ht : (pc : Int) + off = (tgt : Int)) (kt : x.toInt < y.toInt → G E M d mc ms A Q k n tgt ls st ws) (kf : ¬ x.toInt < y.toInt → G E M d mc ms A Q k n (pc + 3) ls st ws) : G E M d mc ms A Q k n pc ls (.int y :: .int x :: st) ws := by
  intro p e s m args below meth c H locs ls0 hc hP hD hS hl
  exact lv_icmp_lt hc.1 hc.2.1 hd ht (fun h => kt (Int32.lt_iff_toInt_lt.mp h) p e s m args below meth c H locs ls0 hc hP hD hS hl) (fun h => kf (fun q => h (Int32.lt_iff_toInt_lt.mpr q)) p e s m args below meth c H locs ls0 hc hP hD hS hl)
theorem g_if_ge {x : Int32} {off : Int} {tgt : Nat} (hd : decode M.2.1 pc = .ok (.ifCond .ge off, 3)) (ht : (pc : Int) + off = (tgt : Int)) (kt : (0 : Int) ≤ x.toInt → G E M d mc ms A Q k n tgt ls st ws) (kf : ¬ (0 : Int) ≤ x.toInt → G E M d mc ms A Q k n (pc + 3) ls st ws) : G E M d mc ms A Q k n pc ls (.int x :: st) ws := by
  intro p e s m args below meth c H locs ls0 hc hP hD hS hl
  exact lv_if_ge hc.1 hc.2.1 hd ht (fun h => kt (Int32.le_iff_toInt_le.mp h) p e s m args below meth c H locs ls0 hc hP hD hS hl) (fun h => kf (fun q => h (Int32.le_iff_toInt_le.mpr q)) p e s m args below meth c H locs ls0 hc hP hD hS hl)
theorem g_icmp_ge {x y : Int32} {off : Int} {tgt : Nat} (hd : decode M.2.1 pc = .ok (.if_icmp .ge off, 3)) (ht : (pc : Int) + off = (tgt : Int)) (kt : y.toInt ≤ x.toInt → G E M d mc ms A Q k n tgt ls st ws) (kf : ¬ y.toInt ≤ x.toInt → G E M d mc ms A Q k n (pc + 3) ls st ws) : G E M d mc ms A Q k n pc ls (.int y :: .int x :: st) ws := by
  intro p e s m args below meth c H locs ls0 hc hP hD hS hl
  exact lv_icmp_ge hc.1 hc.2.1 hd ht (fun h => kt (Int32.le_iff_toInt_le.mp h) p e s m args below meth c H locs ls0 hc hP hD hS hl) (fun h => kf (fun q => h (Int32.le_iff_toInt_le.mpr q)) p e s m args below meth c H locs ls0 hc hP hD hS hl)
theorem g_if_gt {x : Int32} {off : Int} {tgt : Nat} (hd : decode M.2.1 pc = .ok (.ifCond .gt off, 3)) (ht : (pc : Int) + off = (tgt : Int)) (kt : (0 : Int) < x.toInt → G E M d mc ms A Q k n tgt ls st ws) (kf : ¬ (0 : Int) < x.toInt → G E M d mc ms A Q k n (pc + 3) ls st ws) : G E M d mc ms A Q k n pc ls (.int x :: st) ws := by
  intro p e s m args below meth c H locs ls0 hc hP hD hS hl
  exact lv_if_gt hc.1 hc.2.1 hd ht (fun h => kt (Int32.lt_iff_toInt_lt.mp h) p e s m args below meth c H locs ls0 hc hP hD hS hl) (fun h => kf (fun q => h (Int32.lt_iff_toInt_lt.mpr q)) p e s m args below meth c H locs ls0 hc hP hD hS hl)
theorem g_icmp_gt {x y : Int32} {off : Int} {tgt : Nat} (hd : decode M.2.1 pc = .ok (.if_icmp .gt off, 3)) (ht : (pc : Int) + off = (tgt : Int)) (kt : y.toInt < x.toInt → G E M d mc ms A Q k n tgt ls st ws) (kf : ¬ y.toInt < x.toInt → G E M d mc ms A Q k n (pc + 3) ls st ws) : G E M d mc ms A Q k n pc ls (.int y :: .int x :: st) ws := by
  intro p e s m args below meth c H locs ls0 hc hP hD hS hl
  exact lv_icmp_gt hc.1 hc.2.1 hd ht (fun h => kt (Int32.lt_iff_toInt_lt.mp h) p e s m args below meth c H locs ls0 hc hP hD hS hl) (fun h => kf (fun q => h (Int32.lt_iff_toInt_lt.mpr q)) p e s m args below meth c H locs ls0 hc hP hD hS hl)
theorem g_if_le {x : Int32} {off : Int} {tgt : Nat} (hd : decode M.2.1 pc = .ok (.ifCond .le off, 3)) (ht : (pc : Int) + off = (tgt : Int)) (kt : x.toInt ≤ (0 : Int) → G E M d mc ms A Q k n tgt ls st ws) (kf : ¬ x.toInt ≤ (0 : Int) → G E M d mc ms A Q k n (pc + 3) ls st ws) : G E M d mc ms A Q k n pc ls (.int x :: st) ws := by
  intro p e s m args below meth c H locs ls0 hc hP hD hS hl
  exact lv_if_le hc.1 hc.2.1 hd ht (fun h => kt (Int32.le_iff_toInt_le.mp h) p e s m args below meth c H locs ls0 hc hP hD hS hl) (fun h => kf (fun q => h (Int32.le_iff_toInt_le.mpr q)) p e s m args below meth c H locs ls0 hc hP hD hS hl)
theorem g_icmp_le {x y : Int32} {off : Int} {tgt : Nat} (hd : decode M.2.1 pc = .ok (.if_icmp .le off, 3)) (ht : (pc : Int) + off = (tgt : Int)) (kt : x.toInt ≤ y.toInt → G E M d mc ms A Q k n tgt ls st ws) (kf : ¬ x.toInt ≤ y.toInt → G E M d mc ms A Q k n (pc + 3) ls st ws) : G E M d mc ms A Q k n pc ls (.int y :: .int x :: st) ws := by
  intro p e s m args below meth c H locs ls0 hc hP hD hS hl
  exact lv_icmp_le hc.1 hc.2.1 hd ht (fun h => kt (Int32.le_iff_toInt_le.mp h) p e s m args below meth c H locs ls0 hc hP hD hS hl) (fun h => kf (fun q => h (Int32.le_iff_toInt_le.mpr q)) p e s m args below meth c H locs ls0 hc hP hD hS hl)
theorem g_goto {off : Int} {tgt : Nat} (hd : decode M.2.1 pc = .ok (.goto off, 3)) (ht : (pc : Int) + off = (tgt : Int)) (kk : G E M d mc ms A Q k n tgt ls st ws) : G E M d mc ms A Q k n pc ls st ws := by
  intro p e s m args below meth c H locs ls0 hc hP hD hS hl
  exact lv_goto hc.1 hc.2.1 hd ht (kk p e s m args below meth c H locs ls0 hc hP hD hS hl)
theorem g_tsw_out {x : Int32} {dflt lo hi : Int} {offs : Array Int} {len tgt : Nat} (hd : decode M.2.1 pc = .ok (.tableswitch dflt lo hi offs, len)) (hx : x.toInt < lo ∨ hi < x.toInt) (ht : (pc : Int) + dflt = (tgt : Int)) (kk : G E M d mc ms A Q k n tgt ls st ws) : G E M d mc ms A Q k n pc ls (.int x :: st) ws := by
  intro p e s m args below meth c H locs ls0 hc hP hD hS hl
  exact lv_tableOut hc.1 hc.2.1 hd hx ht (kk p e s m args below meth c H locs ls0 hc hP hD hS hl)
theorem g_tsw_in {x : Int32} {dflt lo hi off : Int} {offs : Array Int} {len tgt : Nat} (j : Nat) (hd : decode M.2.1 pc = .ok (.tableswitch dflt lo hi offs, len)) (hx : x.toInt = lo + (j : Int)) (hj : lo + (j : Int) ≤ hi) (ho : offs[j]? = some off) (ht : (pc : Int) + off = (tgt : Int)) (kk : G E M d mc ms A Q k n tgt ls st ws) : G E M d mc ms A Q k n pc ls (.int x :: st) ws := by
  intro p e s m args below meth c H locs ls0 hc hP hD hS hl
  exact lv_tableIn hc.1 hc.2.1 hd (by omega) (by omega) (by rw [show (x.toInt - lo).toNat = j by omega]; exact ho) ht (kk p e s m args below meth c H locs ls0 hc hP hD hS hl)
theorem g_has {ls0 : Array Slot} {nL : Nat} (h : g_loc ls0 nL ls) : lv_has ls0 nL ((List.range ls.length).filterMap (fun i => (ls[i]?.join).map (fun v => (i, v)))) := by
  refine ⟨h.1, h.2.1, fun q hq => ?_⟩
  obtain ⟨i, hi, hv⟩ := List.mem_filterMap.mp hq
  cases hx : ls[i]? with
  | none => rw [hx] at hv; simp at hv
  | some o =>
    rw [hx] at hv
    cases o with
    | none => simp at hv
    | some v =>
      simp at hv
      subst hv
      exact h.2.2 i v hx
theorem g_has_in {i : Nat} {v : Value} (h : ls[i]? = some (some v)) : (i, v) ∈ (List.range ls.length).filterMap (fun i => (ls[i]?.join).map (fun v => (i, v))) := by
  refine List.mem_filterMap.mpr ⟨i, List.mem_range.mpr (List.getElem?_eq_some_iff.mp h).1, ?_⟩
  rw [h]; rfl
def g_c1 (o : Option Value) : Bool := match o with
  | none => true
  | some v => v.category == 1
theorem g_st1 {ls0 ls1 : Array Slot} {nL i : Nat} {v : Value} (hc1 : ∀ o, ls[i - 1]? = some o → 0 < i → g_c1 o = true)
    (h1 : lv_has ls1 nL ((i, v) :: ((List.range ls.length).filterMap (fun i => (ls[i]?.join).map (fun v => (i, v)))).filter (fun q => !(q.1 == i) && !(q.1 + 1 == i && q.2.category == 2)))) : g_loc ls1 nL (ls.set i (some v)) := by
  refine ⟨h1.1, h1.2.1, fun j u hj => ?_⟩
  by_cases hji : j = i
  · subst hji
    have hlt : j < ls.length := by
      have := (List.getElem?_eq_some_iff.mp hj).1
      simpa using this
    rw [List.getElem?_set_self hlt] at hj
    cases hj
    exact h1.2.2 _ List.mem_cons_self
  · rw [List.getElem?_set_ne (Ne.symm hji)] at hj
    refine h1.2.2 (j, u) (List.mem_cons_of_mem _ (List.mem_filter.mpr ⟨g_has_in hj, ?_⟩))
    by_cases hb : j + 1 = i
    · have h2 := hc1 (some u) (by rw [show i - 1 = j by omega]; exact hj) (by omega)
      have h3 : u.category = 1 := by simpa [g_c1] using h2
      simp [hji, h3]
    · simp [hji, hb]
theorem g_st2 {ls0 ls1 : Array Slot} {nL i : Nat} {v : Value} (hc1 : ∀ o, ls[i - 1]? = some o → 0 < i → g_c1 o = true)
    (h1 : lv_has ls1 nL ((i, v) :: ((List.range ls.length).filterMap (fun i => (ls[i]?.join).map (fun v => (i, v)))).filter (fun q => !(q.1 == i) && (!(q.1 == i + 1) && !(q.1 + 1 == i && q.2.category == 2))))) : g_loc ls1 nL ((ls.set i (some v)).set (i + 1) none) := by
  refine ⟨h1.1, h1.2.1, fun j u hj => ?_⟩
  by_cases hj1 : j = i + 1
  · subst hj1
    have hlt : i + 1 < (ls.set i (some v)).length := by
      have := (List.getElem?_eq_some_iff.mp hj).1
      simpa using this
    rw [List.getElem?_set_self hlt] at hj
    cases hj
  · rw [List.getElem?_set_ne (Ne.symm hj1)] at hj
    by_cases hji : j = i
    · subst hji
      have hlt : j < ls.length := by
        have := (List.getElem?_eq_some_iff.mp hj).1
        simpa using this
      rw [List.getElem?_set_self hlt] at hj
      cases hj
      exact h1.2.2 _ List.mem_cons_self
    · rw [List.getElem?_set_ne (Ne.symm hji)] at hj
      refine h1.2.2 (j, u) (List.mem_cons_of_mem _ (List.mem_filter.mpr ⟨g_has_in hj, ?_⟩))
      by_cases hb : j + 1 = i
      · have h2 := hc1 (some u) (by rw [show i - 1 = j by omega]; exact hj) (by omega)
        have h3 : u.category = 1 := by simpa [g_c1] using h2
        simp [hji, hj1, h3]
      · simp [hji, hj1, hb]
theorem g_iload_g {i : Nat} {x : Int32} (hd : decode M.2.1 pc = .ok (.iload i, 2)) (hi : ls[i]? = some (some (.int x))) (kk : G E M d mc ms A Q k n (pc + 2) ls (.int x :: st) ws) : G E M d mc ms A Q k n pc ls st ws := by
  intro p e s m args below meth c H locs ls0 hc hP hD hS hl
  exact lv_iload hc.1 hc.2.1 hd (hl.2.2 i _ hi) (kk p e s m args below meth c H locs ls0 hc hP hD hS hl)
theorem g_iload_ng {i : Fin 4} {x : Int32} (hd : decode M.2.1 pc = .ok (.iload_n i, 1)) (hi : ls[(i : Nat)]? = some (some (.int x))) (kk : G E M d mc ms A Q k n (pc + 1) ls (.int x :: st) ws) : G E M d mc ms A Q k n pc ls st ws := by
  intro p e s m args below meth c H locs ls0 hc hP hD hS hl
  exact lv_iload_n hc.1 hc.2.1 hd rfl (hl.2.2 _ _ hi) (kk p e s m args below meth c H locs ls0 hc hP hD hS hl)
theorem g_istore_g {i : Nat} {x : Int32} (hd : decode M.2.1 pc = .ok (.istore i, 2)) (hn : i < M.2.2.1) (hc1 : ∀ o, ls[i - 1]? = some o → 0 < i → g_c1 o = true) (kk : G E M d mc ms A Q k n (pc + 2) (ls.set i (some (.int x))) st ws) : G E M d mc ms A Q k n pc ls (.int x :: st) ws := by
  intro p e s m args below meth c H locs ls0 hc hP hD hS hl
  exact lv_istore hc.1 hc.2.1 hd (g_has hl) hn rfl (fun ls1 h1 => kk p e s m args below meth c H locs ls1 hc hP hD hS (g_st1 (ls0 := ls0) hc1 h1))
theorem g_istore_ng {i : Fin 4} {x : Int32} (hd : decode M.2.1 pc = .ok (.istore_n i, 1)) (hn : (i : Nat) < M.2.2.1) (hc1 : ∀ o, ls[(i : Nat) - 1]? = some o → 0 < (i : Nat) → g_c1 o = true) (kk : G E M d mc ms A Q k n (pc + 1) (ls.set (i : Nat) (some (.int x))) st ws) : G E M d mc ms A Q k n pc ls (.int x :: st) ws := by
  intro p e s m args below meth c H locs ls0 hc hP hD hS hl
  exact lv_istore_n hc.1 hc.2.1 hd rfl (g_has hl) hn rfl (fun ls1 h1 => kk p e s m args below meth c H locs ls1 hc hP hD hS (g_st1 (ls0 := ls0) hc1 h1))
theorem g_lload_g {i : Nat} {x : Int64} (hd : decode M.2.1 pc = .ok (.lload i, 2)) (hi : ls[i]? = some (some (.long x))) (kk : G E M d mc ms A Q k n (pc + 2) ls (.long x :: st) ws) : G E M d mc ms A Q k n pc ls st ws := by
  intro p e s m args below meth c H locs ls0 hc hP hD hS hl
  exact lv_lload hc.1 hc.2.1 hd (hl.2.2 i _ hi) (kk p e s m args below meth c H locs ls0 hc hP hD hS hl)
theorem g_lload_ng {i : Fin 4} {x : Int64} (hd : decode M.2.1 pc = .ok (.lload_n i, 1)) (hi : ls[(i : Nat)]? = some (some (.long x))) (kk : G E M d mc ms A Q k n (pc + 1) ls (.long x :: st) ws) : G E M d mc ms A Q k n pc ls st ws := by
  intro p e s m args below meth c H locs ls0 hc hP hD hS hl
  exact lv_lload_n hc.1 hc.2.1 hd rfl (hl.2.2 _ _ hi) (kk p e s m args below meth c H locs ls0 hc hP hD hS hl)
theorem g_lstore_g {i : Nat} {x : Int64} (hd : decode M.2.1 pc = .ok (.lstore i, 2)) (hn : i + 1 < M.2.2.1) (hc1 : ∀ o, ls[i - 1]? = some o → 0 < i → g_c1 o = true) (kk : G E M d mc ms A Q k n (pc + 2) ((ls.set i (some (.long x))).set (i + 1) none) st ws) : G E M d mc ms A Q k n pc ls (.long x :: st) ws := by
  intro p e s m args below meth c H locs ls0 hc hP hD hS hl
  exact lv_lstore hc.1 hc.2.1 hd (g_has hl) hn rfl (fun ls1 h1 => kk p e s m args below meth c H locs ls1 hc hP hD hS (g_st2 (ls0 := ls0) hc1 h1))
theorem g_lstore_ng {i : Fin 4} {x : Int64} (hd : decode M.2.1 pc = .ok (.lstore_n i, 1)) (hn : (i : Nat) + 1 < M.2.2.1) (hc1 : ∀ o, ls[(i : Nat) - 1]? = some o → 0 < (i : Nat) → g_c1 o = true) (kk : G E M d mc ms A Q k n (pc + 1) ((ls.set (i : Nat) (some (.long x))).set ((i : Nat) + 1) none) st ws) : G E M d mc ms A Q k n pc ls (.long x :: st) ws := by
  intro p e s m args below meth c H locs ls0 hc hP hD hS hl
  exact lv_lstore_n hc.1 hc.2.1 hd rfl (g_has hl) hn rfl (fun ls1 h1 => kk p e s m args below meth c H locs ls1 hc hP hD hS (g_st2 (ls0 := ls0) hc1 h1))
theorem g_aload_g {i : Nat} {x : Nat} (hd : decode M.2.1 pc = .ok (.aload i, 2)) (hi : ls[i]? = some (some (.ref x))) (kk : G E M d mc ms A Q k n (pc + 2) ls (.ref x :: st) ws) : G E M d mc ms A Q k n pc ls st ws := by
  intro p e s m args below meth c H locs ls0 hc hP hD hS hl
  exact lv_aload hc.1 hc.2.1 hd (hl.2.2 i _ hi) (kk p e s m args below meth c H locs ls0 hc hP hD hS hl)
theorem g_aload_ng {i : Fin 4} {x : Nat} (hd : decode M.2.1 pc = .ok (.aload_n i, 1)) (hi : ls[(i : Nat)]? = some (some (.ref x))) (kk : G E M d mc ms A Q k n (pc + 1) ls (.ref x :: st) ws) : G E M d mc ms A Q k n pc ls st ws := by
  intro p e s m args below meth c H locs ls0 hc hP hD hS hl
  exact lv_aload_n hc.1 hc.2.1 hd rfl (hl.2.2 _ _ hi) (kk p e s m args below meth c H locs ls0 hc hP hD hS hl)
theorem g_astore_g {i : Nat} {x : Nat} (hd : decode M.2.1 pc = .ok (.astore i, 2)) (hn : i < M.2.2.1) (hc1 : ∀ o, ls[i - 1]? = some o → 0 < i → g_c1 o = true) (kk : G E M d mc ms A Q k n (pc + 2) (ls.set i (some (.ref x))) st ws) : G E M d mc ms A Q k n pc ls (.ref x :: st) ws := by
  intro p e s m args below meth c H locs ls0 hc hP hD hS hl
  exact lv_astore hc.1 hc.2.1 hd (g_has hl) hn rfl (fun ls1 h1 => kk p e s m args below meth c H locs ls1 hc hP hD hS (g_st1 (ls0 := ls0) hc1 h1))
theorem g_astore_ng {i : Fin 4} {x : Nat} (hd : decode M.2.1 pc = .ok (.astore_n i, 1)) (hn : (i : Nat) < M.2.2.1) (hc1 : ∀ o, ls[(i : Nat) - 1]? = some o → 0 < (i : Nat) → g_c1 o = true) (kk : G E M d mc ms A Q k n (pc + 1) (ls.set (i : Nat) (some (.ref x))) st ws) : G E M d mc ms A Q k n pc ls (.ref x :: st) ws := by
  intro p e s m args below meth c H locs ls0 hc hP hD hS hl
  exact lv_astore_n hc.1 hc.2.1 hd rfl (g_has hl) hn rfl (fun ls1 h1 => kk p e s m args below meth c H locs ls1 hc hP hD hS (g_st1 (ls0 := ls0) hc1 h1))
theorem g_iinc_g {i : Nat} {c0 : Int} {x v : Int32} (hv : Int32.ofInt c0 = v) (hd : decode M.2.1 pc = .ok (.iinc i c0, 3)) (hn : i < M.2.2.1) (hi : ls[i]? = some (some (.int x))) (hc1 : ∀ o, ls[i - 1]? = some o → 0 < i → g_c1 o = true) (kk : G E M d mc ms A Q k n (pc + 3) (ls.set i (some (.int (x + v)))) st ws) : G E M d mc ms A Q k n pc ls st ws := by
  intro p e s m args below meth c H locs ls0 hc hP hD hS hl
  subst hv
  obtain ⟨j, hj⟩ := List.getElem?_of_mem (g_has_in hi)
  exact lv_iinc hc.1 hc.2.1 hd (g_has hl) hj rfl hn rfl (fun ls1 h1 => kk p e s m args below meth c H locs ls1 hc hP hD hS (g_st1 (ls0 := ls0) hc1 h1))
end GR
